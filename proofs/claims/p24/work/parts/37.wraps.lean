/-! The law's own wrappers: the keeper's answer, or a number for what it throws. -/

abbrev rm_L_pass : Room := { frames := 8, cells := 10, slots := 60, locals := 125 }

set_option maxRecDepth 100000 in
theorem lw_pass_0 {G : Gx} {w : Wd} {kp : Nat} {B : Wd → Prop} {x : Int32} {v : Int32} (hb : ∃ fs, w kp = some (eO 6 fs)) (hc : Ct G yX5_pass kw_X5_pass rm_X5_pass [.ref kp, .int x] w (PB (.int (v)) B)) : Ct G yL_pass kw_L_pass rm_L_pass [.ref kp, .int x] w (PB (.int (v)) B) := by
  obtain ⟨fs, hb⟩ := hb
  refine ct_introW RL "pass" (by decide +kernel) rfl rfl rfl (Nat.le_of_ble_eq_true rfl) [some (.ref kp), some (.int x), none, none] rfl (fun C => ?_)
  refine g_aload0 dL_pass_0 ?_
  refine g_iload1 dL_pass_1 ?_
  refine g_callV1 kc6 hc md_X5_pass dL_pass_2 ml_L_8 im_X5_pass se_X5_pass hb (RmOk.of (Nat.le_of_ble_eq_true rfl) (Nat.le_of_ble_eq_true rfl) (Nat.le_of_ble_eq_true rfl) (Nat.le_of_ble_eq_true rfl) (Nat.le_of_ble_eq_true rfl)) (kr_B (fun w1 hw1 => ?_)) kx_B
  refine g_istore2 dL_pass_5 ?_
  refine g_goto (tgt := 17) dL_pass_6 (by decide) ?_
  refine g_iload2 dL_pass_17 ?_
  refine g_iret dL_pass_18 ?_ (Nat.le_of_ble_eq_true rfl) (Nat.le_of_ble_eq_true rfl)
  exact ⟨rfl, hw1⟩

theorem lw_pass_v {G : Gx} {w : Wd} {kp : Nat} {x : Int32} {v : Int32} (hb : ∃ fs, w kp = some (eO 6 fs)) (hc : Ct G yX5_pass kw_X5_pass rm_X5_pass [.ref kp, .int x] w (PV (.int (v)) w)) : Ct G yL_pass kw_L_pass rm_L_pass [.ref kp, .int x] w (PV (.int (v)) w) := lw_pass_0 (B := fun w' => w' = w) hb hc

set_option maxRecDepth 100000 in
theorem lw_pass_IAE {G : Gx} {w : Wd} {kp : Nat} {x : Int32} (hb : ∃ fs, w kp = some (eO 6 fs)) (hc : Ct G yX5_pass kw_X5_pass rm_X5_pass [.ref kp, .int x] w (PX "java/lang/IllegalArgumentException" w)) : Ct G yL_pass kw_L_pass rm_L_pass [.ref kp, .int x] w (PV (.int (-71)) w) := by
  obtain ⟨fs, hb⟩ := hb
  refine ct_introW RL "pass" (by decide +kernel) rfl rfl rfl (Nat.le_of_ble_eq_true rfl) [some (.ref kp), some (.int x), none, none] rfl (fun C => ?_)
  refine g_aload0 dL_pass_0 ?_
  refine g_iload1 dL_pass_1 ?_
  refine g_callV1 kc6 (hc.mono (P' := PE "java/lang/IllegalArgumentException" (fun w2 => w2 = w)) (fun r9 w9 h9 => h9)) md_X5_pass dL_pass_2 ml_L_8 im_X5_pass se_X5_pass hb (RmOk.of (Nat.le_of_ble_eq_true rfl) (Nat.le_of_ble_eq_true rfl) (Nat.le_of_ble_eq_true rfl) (Nat.le_of_ble_eq_true rfl) (Nat.le_of_ble_eq_true rfl)) kr_E (kx_E (fun w1 hw1 => ?_))
  refine gx_catch [] ⟨0, 6, 9, 14⟩ [⟨0, 6, 13, 16⟩] rfl (fun _ hz => nomatch hz) (by decide) (by decide) cl_L_14 ca_IllegalArgumentException_self (fun q => ?_)
  refine g_astore3 dL_pass_9 ?_
  refine g_bipush (v := (-71)) dL_pass_10 (by decide) ?_
  refine g_iret dL_pass_12 ?_ (Nat.le_of_ble_eq_true rfl) (Nat.le_of_ble_eq_true rfl)
  exact ⟨rfl, hw1⟩

set_option maxRecDepth 100000 in
theorem lw_pass_ISE {G : Gx} {w : Wd} {kp : Nat} {x : Int32} (hb : ∃ fs, w kp = some (eO 6 fs)) (hc : Ct G yX5_pass kw_X5_pass rm_X5_pass [.ref kp, .int x] w (PX "java/lang/IllegalStateException" w)) : Ct G yL_pass kw_L_pass rm_L_pass [.ref kp, .int x] w (PV (.int (-72)) w) := by
  obtain ⟨fs, hb⟩ := hb
  refine ct_introW RL "pass" (by decide +kernel) rfl rfl rfl (Nat.le_of_ble_eq_true rfl) [some (.ref kp), some (.int x), none, none] rfl (fun C => ?_)
  refine g_aload0 dL_pass_0 ?_
  refine g_iload1 dL_pass_1 ?_
  refine g_callV1 kc6 (hc.mono (P' := PE "java/lang/IllegalStateException" (fun w2 => w2 = w)) (fun r9 w9 h9 => h9)) md_X5_pass dL_pass_2 ml_L_8 im_X5_pass se_X5_pass hb (RmOk.of (Nat.le_of_ble_eq_true rfl) (Nat.le_of_ble_eq_true rfl) (Nat.le_of_ble_eq_true rfl) (Nat.le_of_ble_eq_true rfl) (Nat.le_of_ble_eq_true rfl)) kr_E (kx_E (fun w1 hw1 => ?_))
  refine gx_catch [⟨0, 6, 9, 14⟩] ⟨0, 6, 13, 16⟩ [] rfl (fun z hz => by obtain rfl := List.mem_singleton.mp hz; exact Or.inr ⟨by decide, _, cl_L_14, by decide⟩) (by decide) (by decide) cl_L_16 ca_IllegalStateException_self (fun q => ?_)
  refine g_astore3 dL_pass_13 ?_
  refine g_bipush (v := (-72)) dL_pass_14 (by decide) ?_
  refine g_iret dL_pass_16 ?_ (Nat.le_of_ble_eq_true rfl) (Nat.le_of_ble_eq_true rfl)
  exact ⟨rfl, hw1⟩

abbrev rm_L_format : Room := { frames := 8, cells := 12, slots := 280, locals := 214 }

set_option maxRecDepth 100000 in
theorem lw_format_0 {G : Gx} {w : Wd} {kp : Nat} {B : Wd → Prop} {x y z : Int32} {v : Int32} (hb : ∃ fs, w kp = some (eO 6 fs)) (hc : Ct G yX5_format kw_X5_format rm_X5_format [.ref kp, .int x, .int y, .int z] w (PB (.int (v)) B)) : Ct G yL_format kw_L_format rm_L_format [.ref kp, .int x, .int y, .int z] w (PB (.int (v)) B) := by
  obtain ⟨fs, hb⟩ := hb
  refine ct_introW RL "format" (by decide +kernel) rfl rfl rfl (Nat.le_of_ble_eq_true rfl) [some (.ref kp), some (.int x), some (.int y), some (.int z), none, none] rfl (fun C => ?_)
  refine g_aload0 dL_format_0 ?_
  refine g_iload1 dL_format_1 ?_
  refine g_iload2 dL_format_2 ?_
  refine g_iload3 dL_format_3 ?_
  refine g_callV3 kc6 hc md_X5_format dL_format_4 ml_L_18 im_X5_format se_X5_format hb (RmOk.of (Nat.le_of_ble_eq_true rfl) (Nat.le_of_ble_eq_true rfl) (Nat.le_of_ble_eq_true rfl) (Nat.le_of_ble_eq_true rfl) (Nat.le_of_ble_eq_true rfl)) (kr_B (fun w1 hw1 => ?_)) kx_B
  refine g_istore4 dL_format_7 ?_
  refine g_goto (tgt := 22) dL_format_9 (by decide) ?_
  refine g_iload4 dL_format_22 ?_
  refine g_iret dL_format_24 ?_ (Nat.le_of_ble_eq_true rfl) (Nat.le_of_ble_eq_true rfl)
  exact ⟨rfl, hw1⟩

theorem lw_format_v {G : Gx} {w : Wd} {kp : Nat} {x y z : Int32} {v : Int32} (hb : ∃ fs, w kp = some (eO 6 fs)) (hc : Ct G yX5_format kw_X5_format rm_X5_format [.ref kp, .int x, .int y, .int z] w (PV (.int (v)) w)) : Ct G yL_format kw_L_format rm_L_format [.ref kp, .int x, .int y, .int z] w (PV (.int (v)) w) := lw_format_0 (B := fun w' => w' = w) hb hc

set_option maxRecDepth 100000 in
theorem lw_format_IAE {G : Gx} {w : Wd} {kp : Nat} {x y z : Int32} (hb : ∃ fs, w kp = some (eO 6 fs)) (hc : Ct G yX5_format kw_X5_format rm_X5_format [.ref kp, .int x, .int y, .int z] w (PX "java/lang/IllegalArgumentException" w)) : Ct G yL_format kw_L_format rm_L_format [.ref kp, .int x, .int y, .int z] w (PV (.int (-71)) w) := by
  obtain ⟨fs, hb⟩ := hb
  refine ct_introW RL "format" (by decide +kernel) rfl rfl rfl (Nat.le_of_ble_eq_true rfl) [some (.ref kp), some (.int x), some (.int y), some (.int z), none, none] rfl (fun C => ?_)
  refine g_aload0 dL_format_0 ?_
  refine g_iload1 dL_format_1 ?_
  refine g_iload2 dL_format_2 ?_
  refine g_iload3 dL_format_3 ?_
  refine g_callV3 kc6 (hc.mono (P' := PE "java/lang/IllegalArgumentException" (fun w2 => w2 = w)) (fun r9 w9 h9 => h9)) md_X5_format dL_format_4 ml_L_18 im_X5_format se_X5_format hb (RmOk.of (Nat.le_of_ble_eq_true rfl) (Nat.le_of_ble_eq_true rfl) (Nat.le_of_ble_eq_true rfl) (Nat.le_of_ble_eq_true rfl) (Nat.le_of_ble_eq_true rfl)) kr_E (kx_E (fun w1 hw1 => ?_))
  refine gx_catch [] ⟨0, 9, 12, 14⟩ [⟨0, 9, 17, 16⟩] rfl (fun _ hz => nomatch hz) (by decide) (by decide) cl_L_14 ca_IllegalArgumentException_self (fun q => ?_)
  refine g_astore5 dL_format_12 ?_
  refine g_bipush (v := (-71)) dL_format_14 (by decide) ?_
  refine g_iret dL_format_16 ?_ (Nat.le_of_ble_eq_true rfl) (Nat.le_of_ble_eq_true rfl)
  exact ⟨rfl, hw1⟩

set_option maxRecDepth 100000 in
theorem lw_format_ISE {G : Gx} {w : Wd} {kp : Nat} {x y z : Int32} (hb : ∃ fs, w kp = some (eO 6 fs)) (hc : Ct G yX5_format kw_X5_format rm_X5_format [.ref kp, .int x, .int y, .int z] w (PX "java/lang/IllegalStateException" w)) : Ct G yL_format kw_L_format rm_L_format [.ref kp, .int x, .int y, .int z] w (PV (.int (-72)) w) := by
  obtain ⟨fs, hb⟩ := hb
  refine ct_introW RL "format" (by decide +kernel) rfl rfl rfl (Nat.le_of_ble_eq_true rfl) [some (.ref kp), some (.int x), some (.int y), some (.int z), none, none] rfl (fun C => ?_)
  refine g_aload0 dL_format_0 ?_
  refine g_iload1 dL_format_1 ?_
  refine g_iload2 dL_format_2 ?_
  refine g_iload3 dL_format_3 ?_
  refine g_callV3 kc6 (hc.mono (P' := PE "java/lang/IllegalStateException" (fun w2 => w2 = w)) (fun r9 w9 h9 => h9)) md_X5_format dL_format_4 ml_L_18 im_X5_format se_X5_format hb (RmOk.of (Nat.le_of_ble_eq_true rfl) (Nat.le_of_ble_eq_true rfl) (Nat.le_of_ble_eq_true rfl) (Nat.le_of_ble_eq_true rfl) (Nat.le_of_ble_eq_true rfl)) kr_E (kx_E (fun w1 hw1 => ?_))
  refine gx_catch [⟨0, 9, 12, 14⟩] ⟨0, 9, 17, 16⟩ [] rfl (fun z hz => by obtain rfl := List.mem_singleton.mp hz; exact Or.inr ⟨by decide, _, cl_L_14, by decide⟩) (by decide) (by decide) cl_L_16 ca_IllegalStateException_self (fun q => ?_)
  refine g_astore5 dL_format_17 ?_
  refine g_bipush (v := (-72)) dL_format_19 (by decide) ?_
  refine g_iret dL_format_21 ?_ (Nat.le_of_ble_eq_true rfl) (Nat.le_of_ble_eq_true rfl)
  exact ⟨rfl, hw1⟩

abbrev rm_L_line : Room := { frames := 8, cells := 10, slots := 60, locals := 125 }

set_option maxRecDepth 100000 in
theorem lw_line_0 {G : Gx} {w : Wd} {kp : Nat} {B : Wd → Prop} {x : Int32} {v : Int32} (hb : ∃ fs, w kp = some (eO 6 fs)) (hc : Ct G yX5_line kw_X5_line rm_X5_line [.ref kp, .int x] w (PB (.int (v)) B)) : Ct G yL_line kw_L_line rm_L_line [.ref kp, .int x] w (PB (.int (v)) B) := by
  obtain ⟨fs, hb⟩ := hb
  refine ct_introW RL "line" (by decide +kernel) rfl rfl rfl (Nat.le_of_ble_eq_true rfl) [some (.ref kp), some (.int x), none, none] rfl (fun C => ?_)
  refine g_aload0 dL_line_0 ?_
  refine g_iload1 dL_line_1 ?_
  refine g_callV1 kc6 hc md_X5_line dL_line_2 ml_L_22 im_X5_line se_X5_line hb (RmOk.of (Nat.le_of_ble_eq_true rfl) (Nat.le_of_ble_eq_true rfl) (Nat.le_of_ble_eq_true rfl) (Nat.le_of_ble_eq_true rfl) (Nat.le_of_ble_eq_true rfl)) (kr_B (fun w1 hw1 => ?_)) kx_B
  refine g_istore2 dL_line_5 ?_
  refine g_goto (tgt := 17) dL_line_6 (by decide) ?_
  refine g_iload2 dL_line_17 ?_
  refine g_iret dL_line_18 ?_ (Nat.le_of_ble_eq_true rfl) (Nat.le_of_ble_eq_true rfl)
  exact ⟨rfl, hw1⟩

theorem lw_line_v {G : Gx} {w : Wd} {kp : Nat} {x : Int32} {v : Int32} (hb : ∃ fs, w kp = some (eO 6 fs)) (hc : Ct G yX5_line kw_X5_line rm_X5_line [.ref kp, .int x] w (PV (.int (v)) w)) : Ct G yL_line kw_L_line rm_L_line [.ref kp, .int x] w (PV (.int (v)) w) := lw_line_0 (B := fun w' => w' = w) hb hc

set_option maxRecDepth 100000 in
theorem lw_line_IAE {G : Gx} {w : Wd} {kp : Nat} {x : Int32} (hb : ∃ fs, w kp = some (eO 6 fs)) (hc : Ct G yX5_line kw_X5_line rm_X5_line [.ref kp, .int x] w (PX "java/lang/IllegalArgumentException" w)) : Ct G yL_line kw_L_line rm_L_line [.ref kp, .int x] w (PV (.int (-71)) w) := by
  obtain ⟨fs, hb⟩ := hb
  refine ct_introW RL "line" (by decide +kernel) rfl rfl rfl (Nat.le_of_ble_eq_true rfl) [some (.ref kp), some (.int x), none, none] rfl (fun C => ?_)
  refine g_aload0 dL_line_0 ?_
  refine g_iload1 dL_line_1 ?_
  refine g_callV1 kc6 (hc.mono (P' := PE "java/lang/IllegalArgumentException" (fun w2 => w2 = w)) (fun r9 w9 h9 => h9)) md_X5_line dL_line_2 ml_L_22 im_X5_line se_X5_line hb (RmOk.of (Nat.le_of_ble_eq_true rfl) (Nat.le_of_ble_eq_true rfl) (Nat.le_of_ble_eq_true rfl) (Nat.le_of_ble_eq_true rfl) (Nat.le_of_ble_eq_true rfl)) kr_E (kx_E (fun w1 hw1 => ?_))
  refine gx_catch [] ⟨0, 6, 9, 14⟩ [⟨0, 6, 13, 16⟩] rfl (fun _ hz => nomatch hz) (by decide) (by decide) cl_L_14 ca_IllegalArgumentException_self (fun q => ?_)
  refine g_astore3 dL_line_9 ?_
  refine g_bipush (v := (-71)) dL_line_10 (by decide) ?_
  refine g_iret dL_line_12 ?_ (Nat.le_of_ble_eq_true rfl) (Nat.le_of_ble_eq_true rfl)
  exact ⟨rfl, hw1⟩

set_option maxRecDepth 100000 in
theorem lw_line_ISE {G : Gx} {w : Wd} {kp : Nat} {x : Int32} (hb : ∃ fs, w kp = some (eO 6 fs)) (hc : Ct G yX5_line kw_X5_line rm_X5_line [.ref kp, .int x] w (PX "java/lang/IllegalStateException" w)) : Ct G yL_line kw_L_line rm_L_line [.ref kp, .int x] w (PV (.int (-72)) w) := by
  obtain ⟨fs, hb⟩ := hb
  refine ct_introW RL "line" (by decide +kernel) rfl rfl rfl (Nat.le_of_ble_eq_true rfl) [some (.ref kp), some (.int x), none, none] rfl (fun C => ?_)
  refine g_aload0 dL_line_0 ?_
  refine g_iload1 dL_line_1 ?_
  refine g_callV1 kc6 (hc.mono (P' := PE "java/lang/IllegalStateException" (fun w2 => w2 = w)) (fun r9 w9 h9 => h9)) md_X5_line dL_line_2 ml_L_22 im_X5_line se_X5_line hb (RmOk.of (Nat.le_of_ble_eq_true rfl) (Nat.le_of_ble_eq_true rfl) (Nat.le_of_ble_eq_true rfl) (Nat.le_of_ble_eq_true rfl) (Nat.le_of_ble_eq_true rfl)) kr_E (kx_E (fun w1 hw1 => ?_))
  refine gx_catch [⟨0, 6, 9, 14⟩] ⟨0, 6, 13, 16⟩ [] rfl (fun z hz => by obtain rfl := List.mem_singleton.mp hz; exact Or.inr ⟨by decide, _, cl_L_14, by decide⟩) (by decide) (by decide) cl_L_16 ca_IllegalStateException_self (fun q => ?_)
  refine g_astore3 dL_line_13 ?_
  refine g_bipush (v := (-72)) dL_line_14 (by decide) ?_
  refine g_iret dL_line_16 ?_ (Nat.le_of_ble_eq_true rfl) (Nat.le_of_ble_eq_true rfl)
  exact ⟨rfl, hw1⟩

abbrev rm_L_end : Room := { frames := 10, cells := 300, slots := 2700, locals := 258 }

set_option maxRecDepth 100000 in
theorem lw_end_0 {G : Gx} {w : Wd} {kp : Nat} {B : Wd → Prop} {v : Int32} (hb : ∃ fs, w kp = some (eO 6 fs)) (hc : Ct G yX5_end kw_X5_end rm_X5_end [.ref kp] w (PB (.int (v)) B)) : Ct G yL_end kw_L_end rm_L_end [.ref kp] w (PB (.int (v)) B) := by
  obtain ⟨fs, hb⟩ := hb
  refine ct_introW RL "end" (by decide +kernel) rfl rfl rfl (Nat.le_of_ble_eq_true rfl) [some (.ref kp), none, none] rfl (fun C => ?_)
  refine g_aload0 dL_end_0 ?_
  refine g_callV0 kc6 hc md_X5_end dL_end_1 ml_L_25 im_X5_end se_X5_end hb (RmOk.of (Nat.le_of_ble_eq_true rfl) (Nat.le_of_ble_eq_true rfl) (Nat.le_of_ble_eq_true rfl) (Nat.le_of_ble_eq_true rfl) (Nat.le_of_ble_eq_true rfl)) (kr_B (fun w1 hw1 => ?_)) kx_B
  refine g_istore1 dL_end_4 ?_
  refine g_goto (tgt := 12) dL_end_5 (by decide) ?_
  refine g_iload1 dL_end_12 ?_
  refine g_iret dL_end_13 ?_ (Nat.le_of_ble_eq_true rfl) (Nat.le_of_ble_eq_true rfl)
  exact ⟨rfl, hw1⟩

theorem lw_end_v {G : Gx} {w : Wd} {kp : Nat} {v : Int32} (hb : ∃ fs, w kp = some (eO 6 fs)) (hc : Ct G yX5_end kw_X5_end rm_X5_end [.ref kp] w (PV (.int (v)) w)) : Ct G yL_end kw_L_end rm_L_end [.ref kp] w (PV (.int (v)) w) := lw_end_0 (B := fun w' => w' = w) hb hc

set_option maxRecDepth 100000 in
theorem lw_end_ISE {G : Gx} {w : Wd} {kp : Nat} (hb : ∃ fs, w kp = some (eO 6 fs)) (hc : Ct G yX5_end kw_X5_end rm_X5_end [.ref kp] w (PX "java/lang/IllegalStateException" w)) : Ct G yL_end kw_L_end rm_L_end [.ref kp] w (PV (.int (-72)) w) := by
  obtain ⟨fs, hb⟩ := hb
  refine ct_introW RL "end" (by decide +kernel) rfl rfl rfl (Nat.le_of_ble_eq_true rfl) [some (.ref kp), none, none] rfl (fun C => ?_)
  refine g_aload0 dL_end_0 ?_
  refine g_callV0 kc6 (hc.mono (P' := PE "java/lang/IllegalStateException" (fun w2 => w2 = w)) (fun r9 w9 h9 => h9)) md_X5_end dL_end_1 ml_L_25 im_X5_end se_X5_end hb (RmOk.of (Nat.le_of_ble_eq_true rfl) (Nat.le_of_ble_eq_true rfl) (Nat.le_of_ble_eq_true rfl) (Nat.le_of_ble_eq_true rfl) (Nat.le_of_ble_eq_true rfl)) kr_E (kx_E (fun w1 hw1 => ?_))
  refine gx_catch [] ⟨0, 5, 8, 16⟩ [] rfl (fun _ hz => nomatch hz) (by decide) (by decide) cl_L_16 ca_IllegalStateException_self (fun q => ?_)
  refine g_astore2 dL_end_8 ?_
  refine g_bipush (v := (-72)) dL_end_9 (by decide) ?_
  refine g_iret dL_end_11 ?_ (Nat.le_of_ble_eq_true rfl) (Nat.le_of_ble_eq_true rfl)
  exact ⟨rfl, hw1⟩

abbrev rm_L_pages : Room := { frames := 8, cells := 2, slots := 12, locals := 124 }

set_option maxRecDepth 100000 in
theorem lw_pages_0 {G : Gx} {w : Wd} {kp : Nat} {B : Wd → Prop} {x : Int32} {v : Int32} (hb : ∃ fs, w kp = some (eO 6 fs)) (hc : Ct G yX5_pages kw_X5_pages rm_X5_pages [.ref kp, .int x] w (PB (.int (v)) B)) : Ct G yL_pages kw_L_pages rm_L_pages [.ref kp, .int x] w (PB (.int (v)) B) := by
  obtain ⟨fs, hb⟩ := hb
  refine ct_introW RL "pages" (by decide +kernel) rfl rfl rfl (Nat.le_of_ble_eq_true rfl) [some (.ref kp), some (.int x), none, none] rfl (fun C => ?_)
  refine g_aload0 dL_pages_0 ?_
  refine g_iload1 dL_pages_1 ?_
  refine g_callV1 kc6 hc md_X5_pages dL_pages_2 ml_L_29 im_X5_pages se_X5_pages hb (RmOk.of (Nat.le_of_ble_eq_true rfl) (Nat.le_of_ble_eq_true rfl) (Nat.le_of_ble_eq_true rfl) (Nat.le_of_ble_eq_true rfl) (Nat.le_of_ble_eq_true rfl)) (kr_B (fun w1 hw1 => ?_)) kx_B
  refine g_istore2 dL_pages_5 ?_
  refine g_goto (tgt := 13) dL_pages_6 (by decide) ?_
  refine g_iload2 dL_pages_13 ?_
  refine g_iret dL_pages_14 ?_ (Nat.le_of_ble_eq_true rfl) (Nat.le_of_ble_eq_true rfl)
  exact ⟨rfl, hw1⟩

theorem lw_pages_v {G : Gx} {w : Wd} {kp : Nat} {x : Int32} {v : Int32} (hb : ∃ fs, w kp = some (eO 6 fs)) (hc : Ct G yX5_pages kw_X5_pages rm_X5_pages [.ref kp, .int x] w (PV (.int (v)) w)) : Ct G yL_pages kw_L_pages rm_L_pages [.ref kp, .int x] w (PV (.int (v)) w) := lw_pages_0 (B := fun w' => w' = w) hb hc

set_option maxRecDepth 100000 in
theorem lw_pages_IOOB {G : Gx} {w : Wd} {kp : Nat} {x : Int32} (hb : ∃ fs, w kp = some (eO 6 fs)) (hc : Ct G yX5_pages kw_X5_pages rm_X5_pages [.ref kp, .int x] w (PX "java/lang/IndexOutOfBoundsException" w)) : Ct G yL_pages kw_L_pages rm_L_pages [.ref kp, .int x] w (PV (.int (-73)) w) := by
  obtain ⟨fs, hb⟩ := hb
  refine ct_introW RL "pages" (by decide +kernel) rfl rfl rfl (Nat.le_of_ble_eq_true rfl) [some (.ref kp), some (.int x), none, none] rfl (fun C => ?_)
  refine g_aload0 dL_pages_0 ?_
  refine g_iload1 dL_pages_1 ?_
  refine g_callV1 kc6 (hc.mono (P' := PE "java/lang/IndexOutOfBoundsException" (fun w2 => w2 = w)) (fun r9 w9 h9 => h9)) md_X5_pages dL_pages_2 ml_L_29 im_X5_pages se_X5_pages hb (RmOk.of (Nat.le_of_ble_eq_true rfl) (Nat.le_of_ble_eq_true rfl) (Nat.le_of_ble_eq_true rfl) (Nat.le_of_ble_eq_true rfl) (Nat.le_of_ble_eq_true rfl)) kr_E (kx_E (fun w1 hw1 => ?_))
  refine gx_catch [] ⟨0, 6, 9, 32⟩ [] rfl (fun _ hz => nomatch hz) (by decide) (by decide) cl_L_32 ca_IndexOutOfBoundsException_self (fun q => ?_)
  refine g_astore3 dL_pages_9 ?_
  refine g_bipush (v := (-73)) dL_pages_10 (by decide) ?_
  refine g_iret dL_pages_12 ?_ (Nat.le_of_ble_eq_true rfl) (Nat.le_of_ble_eq_true rfl)
  exact ⟨rfl, hw1⟩

abbrev rm_L_twice : Room := { frames := 8, cells := 2, slots := 12, locals := 126 }

set_option maxRecDepth 100000 in
theorem lw_twice_0 {G : Gx} {w : Wd} {kp : Nat} {B : Wd → Prop} {x : Int32} {v : Int32} (hb : ∃ fs, w kp = some (eO 6 fs)) (hc : Ct G yX5_twice kw_X5_twice rm_X5_twice [.ref kp, .int x] w (PB (.int (v)) B)) : Ct G yL_twice kw_L_twice rm_L_twice [.ref kp, .int x] w (PB (.int (v)) B) := by
  obtain ⟨fs, hb⟩ := hb
  refine ct_introW RL "twice" (by decide +kernel) rfl rfl rfl (Nat.le_of_ble_eq_true rfl) [some (.ref kp), some (.int x), none, none] rfl (fun C => ?_)
  refine g_aload0 dL_twice_0 ?_
  refine g_iload1 dL_twice_1 ?_
  refine g_callV1 kc6 hc md_X5_twice dL_twice_2 ml_L_34 im_X5_twice se_X5_twice hb (RmOk.of (Nat.le_of_ble_eq_true rfl) (Nat.le_of_ble_eq_true rfl) (Nat.le_of_ble_eq_true rfl) (Nat.le_of_ble_eq_true rfl) (Nat.le_of_ble_eq_true rfl)) (kr_B (fun w1 hw1 => ?_)) kx_B
  refine g_istore2 dL_twice_5 ?_
  refine g_goto (tgt := 13) dL_twice_6 (by decide) ?_
  refine g_iload2 dL_twice_13 ?_
  refine g_iret dL_twice_14 ?_ (Nat.le_of_ble_eq_true rfl) (Nat.le_of_ble_eq_true rfl)
  exact ⟨rfl, hw1⟩

theorem lw_twice_v {G : Gx} {w : Wd} {kp : Nat} {x : Int32} {v : Int32} (hb : ∃ fs, w kp = some (eO 6 fs)) (hc : Ct G yX5_twice kw_X5_twice rm_X5_twice [.ref kp, .int x] w (PV (.int (v)) w)) : Ct G yL_twice kw_L_twice rm_L_twice [.ref kp, .int x] w (PV (.int (v)) w) := lw_twice_0 (B := fun w' => w' = w) hb hc

set_option maxRecDepth 100000 in
theorem lw_twice_IOOB {G : Gx} {w : Wd} {kp : Nat} {x : Int32} (hb : ∃ fs, w kp = some (eO 6 fs)) (hc : Ct G yX5_twice kw_X5_twice rm_X5_twice [.ref kp, .int x] w (PX "java/lang/IndexOutOfBoundsException" w)) : Ct G yL_twice kw_L_twice rm_L_twice [.ref kp, .int x] w (PV (.int (-73)) w) := by
  obtain ⟨fs, hb⟩ := hb
  refine ct_introW RL "twice" (by decide +kernel) rfl rfl rfl (Nat.le_of_ble_eq_true rfl) [some (.ref kp), some (.int x), none, none] rfl (fun C => ?_)
  refine g_aload0 dL_twice_0 ?_
  refine g_iload1 dL_twice_1 ?_
  refine g_callV1 kc6 (hc.mono (P' := PE "java/lang/IndexOutOfBoundsException" (fun w2 => w2 = w)) (fun r9 w9 h9 => h9)) md_X5_twice dL_twice_2 ml_L_34 im_X5_twice se_X5_twice hb (RmOk.of (Nat.le_of_ble_eq_true rfl) (Nat.le_of_ble_eq_true rfl) (Nat.le_of_ble_eq_true rfl) (Nat.le_of_ble_eq_true rfl) (Nat.le_of_ble_eq_true rfl)) kr_E (kx_E (fun w1 hw1 => ?_))
  refine gx_catch [] ⟨0, 6, 9, 32⟩ [] rfl (fun _ hz => nomatch hz) (by decide) (by decide) cl_L_32 ca_IndexOutOfBoundsException_self (fun q => ?_)
  refine g_astore3 dL_twice_9 ?_
  refine g_bipush (v := (-73)) dL_twice_10 (by decide) ?_
  refine g_iret dL_twice_12 ?_ (Nat.le_of_ble_eq_true rfl) (Nat.le_of_ble_eq_true rfl)
  exact ⟨rfl, hw1⟩

abbrev rm_L_reprint : Room := { frames := 8, cells := 10, slots := 60, locals := 130 }

set_option maxRecDepth 100000 in
theorem lw_reprint_0 {G : Gx} {w : Wd} {kp : Nat} {B : Wd → Prop} {x y z : Int32} {v : Int32} (hb : ∃ fs, w kp = some (eO 6 fs)) (hc : Ct G yX5_reprint kw_X5_reprint rm_X5_reprint [.ref kp, .int x, .int y, .int z] w (PB (.int (v)) B)) : Ct G yL_reprint kw_L_reprint rm_L_reprint [.ref kp, .int x, .int y, .int z] w (PB (.int (v)) B) := by
  obtain ⟨fs, hb⟩ := hb
  refine ct_introW RL "reprint" (by decide +kernel) rfl rfl rfl (Nat.le_of_ble_eq_true rfl) [some (.ref kp), some (.int x), some (.int y), some (.int z), none, none] rfl (fun C => ?_)
  refine g_aload0 dL_reprint_0 ?_
  refine g_iload1 dL_reprint_1 ?_
  refine g_iload2 dL_reprint_2 ?_
  refine g_iload3 dL_reprint_3 ?_
  refine g_callV3 kc6 hc md_X5_reprint dL_reprint_4 ml_L_37 im_X5_reprint se_X5_reprint hb (RmOk.of (Nat.le_of_ble_eq_true rfl) (Nat.le_of_ble_eq_true rfl) (Nat.le_of_ble_eq_true rfl) (Nat.le_of_ble_eq_true rfl) (Nat.le_of_ble_eq_true rfl)) (kr_B (fun w1 hw1 => ?_)) kx_B
  refine g_istore4 dL_reprint_7 ?_
  refine g_goto (tgt := 22) dL_reprint_9 (by decide) ?_
  refine g_iload4 dL_reprint_22 ?_
  refine g_iret dL_reprint_24 ?_ (Nat.le_of_ble_eq_true rfl) (Nat.le_of_ble_eq_true rfl)
  exact ⟨rfl, hw1⟩

theorem lw_reprint_v {G : Gx} {w : Wd} {kp : Nat} {x y z : Int32} {v : Int32} (hb : ∃ fs, w kp = some (eO 6 fs)) (hc : Ct G yX5_reprint kw_X5_reprint rm_X5_reprint [.ref kp, .int x, .int y, .int z] w (PV (.int (v)) w)) : Ct G yL_reprint kw_L_reprint rm_L_reprint [.ref kp, .int x, .int y, .int z] w (PV (.int (v)) w) := lw_reprint_0 (B := fun w' => w' = w) hb hc

set_option maxRecDepth 100000 in
theorem lw_reprint_IOOB {G : Gx} {w : Wd} {kp : Nat} {x y z : Int32} (hb : ∃ fs, w kp = some (eO 6 fs)) (hc : Ct G yX5_reprint kw_X5_reprint rm_X5_reprint [.ref kp, .int x, .int y, .int z] w (PX "java/lang/IndexOutOfBoundsException" w)) : Ct G yL_reprint kw_L_reprint rm_L_reprint [.ref kp, .int x, .int y, .int z] w (PV (.int (-73)) w) := by
  obtain ⟨fs, hb⟩ := hb
  refine ct_introW RL "reprint" (by decide +kernel) rfl rfl rfl (Nat.le_of_ble_eq_true rfl) [some (.ref kp), some (.int x), some (.int y), some (.int z), none, none] rfl (fun C => ?_)
  refine g_aload0 dL_reprint_0 ?_
  refine g_iload1 dL_reprint_1 ?_
  refine g_iload2 dL_reprint_2 ?_
  refine g_iload3 dL_reprint_3 ?_
  refine g_callV3 kc6 (hc.mono (P' := PE "java/lang/IndexOutOfBoundsException" (fun w2 => w2 = w)) (fun r9 w9 h9 => h9)) md_X5_reprint dL_reprint_4 ml_L_37 im_X5_reprint se_X5_reprint hb (RmOk.of (Nat.le_of_ble_eq_true rfl) (Nat.le_of_ble_eq_true rfl) (Nat.le_of_ble_eq_true rfl) (Nat.le_of_ble_eq_true rfl) (Nat.le_of_ble_eq_true rfl)) kr_E (kx_E (fun w1 hw1 => ?_))
  refine gx_catch [] ⟨0, 9, 12, 32⟩ [⟨0, 9, 17, 14⟩] rfl (fun _ hz => nomatch hz) (by decide) (by decide) cl_L_32 ca_IndexOutOfBoundsException_self (fun q => ?_)
  refine g_astore5 dL_reprint_12 ?_
  refine g_bipush (v := (-73)) dL_reprint_14 (by decide) ?_
  refine g_iret dL_reprint_16 ?_ (Nat.le_of_ble_eq_true rfl) (Nat.le_of_ble_eq_true rfl)
  exact ⟨rfl, hw1⟩

set_option maxRecDepth 100000 in
theorem lw_reprint_IAE {G : Gx} {w : Wd} {kp : Nat} {x y z : Int32} (hb : ∃ fs, w kp = some (eO 6 fs)) (hc : Ct G yX5_reprint kw_X5_reprint rm_X5_reprint [.ref kp, .int x, .int y, .int z] w (PX "java/lang/IllegalArgumentException" w)) : Ct G yL_reprint kw_L_reprint rm_L_reprint [.ref kp, .int x, .int y, .int z] w (PV (.int (-71)) w) := by
  obtain ⟨fs, hb⟩ := hb
  refine ct_introW RL "reprint" (by decide +kernel) rfl rfl rfl (Nat.le_of_ble_eq_true rfl) [some (.ref kp), some (.int x), some (.int y), some (.int z), none, none] rfl (fun C => ?_)
  refine g_aload0 dL_reprint_0 ?_
  refine g_iload1 dL_reprint_1 ?_
  refine g_iload2 dL_reprint_2 ?_
  refine g_iload3 dL_reprint_3 ?_
  refine g_callV3 kc6 (hc.mono (P' := PE "java/lang/IllegalArgumentException" (fun w2 => w2 = w)) (fun r9 w9 h9 => h9)) md_X5_reprint dL_reprint_4 ml_L_37 im_X5_reprint se_X5_reprint hb (RmOk.of (Nat.le_of_ble_eq_true rfl) (Nat.le_of_ble_eq_true rfl) (Nat.le_of_ble_eq_true rfl) (Nat.le_of_ble_eq_true rfl) (Nat.le_of_ble_eq_true rfl)) kr_E (kx_E (fun w1 hw1 => ?_))
  refine gx_catch [⟨0, 9, 12, 32⟩] ⟨0, 9, 17, 14⟩ [] rfl (fun z hz => by obtain rfl := List.mem_singleton.mp hz; exact Or.inr ⟨by decide, _, cl_L_32, by decide⟩) (by decide) (by decide) cl_L_14 ca_IllegalArgumentException_self (fun q => ?_)
  refine g_astore5 dL_reprint_17 ?_
  refine g_bipush (v := (-71)) dL_reprint_19 (by decide) ?_
  refine g_iret dL_reprint_21 ?_ (Nat.le_of_ble_eq_true rfl) (Nat.le_of_ble_eq_true rfl)
  exact ⟨rfl, hw1⟩

abbrev rm_L_copies : Room := { frames := 9, cells := 2, slots := 12, locals := 146 }

set_option maxRecDepth 100000 in
theorem lw_copies_0 {G : Gx} {w : Wd} {kp : Nat} {B : Wd → Prop} {x y : Int32} {v : Int32} (hb : ∃ fs, w kp = some (eO 6 fs)) (hc : Ct G yX5_copies kw_X5_copies rm_X5_copies [.ref kp, .int x, .int y] w (PB (.int (v)) B)) : Ct G yL_copies kw_L_copies rm_L_copies [.ref kp, .int x, .int y] w (PB (.int (v)) B) := by
  obtain ⟨fs, hb⟩ := hb
  refine ct_introW RL "copies" (by decide +kernel) rfl rfl rfl (Nat.le_of_ble_eq_true rfl) [some (.ref kp), some (.int x), some (.int y), none, none] rfl (fun C => ?_)
  refine g_aload0 dL_copies_0 ?_
  refine g_iload1 dL_copies_1 ?_
  refine g_iload2 dL_copies_2 ?_
  refine g_callV2 kc6 hc md_X5_copies dL_copies_3 ml_L_40 im_X5_copies se_X5_copies hb (RmOk.of (Nat.le_of_ble_eq_true rfl) (Nat.le_of_ble_eq_true rfl) (Nat.le_of_ble_eq_true rfl) (Nat.le_of_ble_eq_true rfl) (Nat.le_of_ble_eq_true rfl)) (kr_B (fun w1 hw1 => ?_)) kx_B
  refine g_istore3 dL_copies_6 ?_
  refine g_goto (tgt := 15) dL_copies_7 (by decide) ?_
  refine g_iload3 dL_copies_15 ?_
  refine g_iret dL_copies_16 ?_ (Nat.le_of_ble_eq_true rfl) (Nat.le_of_ble_eq_true rfl)
  exact ⟨rfl, hw1⟩

theorem lw_copies_v {G : Gx} {w : Wd} {kp : Nat} {x y : Int32} {v : Int32} (hb : ∃ fs, w kp = some (eO 6 fs)) (hc : Ct G yX5_copies kw_X5_copies rm_X5_copies [.ref kp, .int x, .int y] w (PV (.int (v)) w)) : Ct G yL_copies kw_L_copies rm_L_copies [.ref kp, .int x, .int y] w (PV (.int (v)) w) := lw_copies_0 (B := fun w' => w' = w) hb hc

set_option maxRecDepth 100000 in
theorem lw_copies_IOOB {G : Gx} {w : Wd} {kp : Nat} {x y : Int32} (hb : ∃ fs, w kp = some (eO 6 fs)) (hc : Ct G yX5_copies kw_X5_copies rm_X5_copies [.ref kp, .int x, .int y] w (PX "java/lang/IndexOutOfBoundsException" w)) : Ct G yL_copies kw_L_copies rm_L_copies [.ref kp, .int x, .int y] w (PV (.int (-73)) w) := by
  obtain ⟨fs, hb⟩ := hb
  refine ct_introW RL "copies" (by decide +kernel) rfl rfl rfl (Nat.le_of_ble_eq_true rfl) [some (.ref kp), some (.int x), some (.int y), none, none] rfl (fun C => ?_)
  refine g_aload0 dL_copies_0 ?_
  refine g_iload1 dL_copies_1 ?_
  refine g_iload2 dL_copies_2 ?_
  refine g_callV2 kc6 (hc.mono (P' := PE "java/lang/IndexOutOfBoundsException" (fun w2 => w2 = w)) (fun r9 w9 h9 => h9)) md_X5_copies dL_copies_3 ml_L_40 im_X5_copies se_X5_copies hb (RmOk.of (Nat.le_of_ble_eq_true rfl) (Nat.le_of_ble_eq_true rfl) (Nat.le_of_ble_eq_true rfl) (Nat.le_of_ble_eq_true rfl) (Nat.le_of_ble_eq_true rfl)) kr_E (kx_E (fun w1 hw1 => ?_))
  refine gx_catch [] ⟨0, 7, 10, 32⟩ [] rfl (fun _ hz => nomatch hz) (by decide) (by decide) cl_L_32 ca_IndexOutOfBoundsException_self (fun q => ?_)
  refine g_astore4 dL_copies_10 ?_
  refine g_bipush (v := (-73)) dL_copies_12 (by decide) ?_
  refine g_iret dL_copies_14 ?_ (Nat.le_of_ble_eq_true rfl) (Nat.le_of_ble_eq_true rfl)
  exact ⟨rfl, hw1⟩

abbrev rm_L_account : Room := { frames := 8, cells := 2, slots := 12, locals := 124 }

set_option maxRecDepth 100000 in
theorem lw_account_0 {G : Gx} {w : Wd} {kp : Nat} {B : Wd → Prop} {x : Int32} {v : Int32} (hb : ∃ fs, w kp = some (eO 6 fs)) (hc : Ct G yX5_account kw_X5_account rm_X5_account [.ref kp, .int x] w (PB (.int (v)) B)) : Ct G yL_account kw_L_account rm_L_account [.ref kp, .int x] w (PB (.int (v)) B) := by
  obtain ⟨fs, hb⟩ := hb
  refine ct_introW RL "account" (by decide +kernel) rfl rfl rfl (Nat.le_of_ble_eq_true rfl) [some (.ref kp), some (.int x), none, none] rfl (fun C => ?_)
  refine g_aload0 dL_account_0 ?_
  refine g_iload1 dL_account_1 ?_
  refine g_callV1 kc6 hc md_X5_account dL_account_2 ml_L_44 im_X5_account se_X5_account hb (RmOk.of (Nat.le_of_ble_eq_true rfl) (Nat.le_of_ble_eq_true rfl) (Nat.le_of_ble_eq_true rfl) (Nat.le_of_ble_eq_true rfl) (Nat.le_of_ble_eq_true rfl)) (kr_B (fun w1 hw1 => ?_)) kx_B
  refine g_istore2 dL_account_5 ?_
  refine g_goto (tgt := 13) dL_account_6 (by decide) ?_
  refine g_iload2 dL_account_13 ?_
  refine g_iret dL_account_14 ?_ (Nat.le_of_ble_eq_true rfl) (Nat.le_of_ble_eq_true rfl)
  exact ⟨rfl, hw1⟩

theorem lw_account_v {G : Gx} {w : Wd} {kp : Nat} {x : Int32} {v : Int32} (hb : ∃ fs, w kp = some (eO 6 fs)) (hc : Ct G yX5_account kw_X5_account rm_X5_account [.ref kp, .int x] w (PV (.int (v)) w)) : Ct G yL_account kw_L_account rm_L_account [.ref kp, .int x] w (PV (.int (v)) w) := lw_account_0 (B := fun w' => w' = w) hb hc

set_option maxRecDepth 100000 in
theorem lw_account_IOOB {G : Gx} {w : Wd} {kp : Nat} {x : Int32} (hb : ∃ fs, w kp = some (eO 6 fs)) (hc : Ct G yX5_account kw_X5_account rm_X5_account [.ref kp, .int x] w (PX "java/lang/IndexOutOfBoundsException" w)) : Ct G yL_account kw_L_account rm_L_account [.ref kp, .int x] w (PV (.int (-73)) w) := by
  obtain ⟨fs, hb⟩ := hb
  refine ct_introW RL "account" (by decide +kernel) rfl rfl rfl (Nat.le_of_ble_eq_true rfl) [some (.ref kp), some (.int x), none, none] rfl (fun C => ?_)
  refine g_aload0 dL_account_0 ?_
  refine g_iload1 dL_account_1 ?_
  refine g_callV1 kc6 (hc.mono (P' := PE "java/lang/IndexOutOfBoundsException" (fun w2 => w2 = w)) (fun r9 w9 h9 => h9)) md_X5_account dL_account_2 ml_L_44 im_X5_account se_X5_account hb (RmOk.of (Nat.le_of_ble_eq_true rfl) (Nat.le_of_ble_eq_true rfl) (Nat.le_of_ble_eq_true rfl) (Nat.le_of_ble_eq_true rfl) (Nat.le_of_ble_eq_true rfl)) kr_E (kx_E (fun w1 hw1 => ?_))
  refine gx_catch [] ⟨0, 6, 9, 32⟩ [] rfl (fun _ hz => nomatch hz) (by decide) (by decide) cl_L_32 ca_IndexOutOfBoundsException_self (fun q => ?_)
  refine g_astore3 dL_account_9 ?_
  refine g_bipush (v := (-73)) dL_account_10 (by decide) ?_
  refine g_iret dL_account_12 ?_ (Nat.le_of_ble_eq_true rfl) (Nat.le_of_ble_eq_true rfl)
  exact ⟨rfl, hw1⟩

abbrev rm_L_found : Room := { frames := 8, cells := 10, slots := 60, locals := 133 }

set_option maxRecDepth 100000 in
theorem lw_found_0 {G : Gx} {w : Wd} {kp : Nat} {B : Wd → Prop} {ac dy ix ki x : Int32} {v : Int32} (hb : ∃ fs, w kp = some (eO 6 fs)) (hc : Ct G yX5_found kw_X5_found rm_X5_found [.ref kp, .int x, .int ac, .int ki, .int dy, .int ix] w (PB (.int (v)) B)) : Ct G yL_found kw_L_found rm_L_found [.ref kp, .int x, .int ac, .int ki, .int dy, .int ix] w (PB (.int (v)) B) := by
  obtain ⟨fs, hb⟩ := hb
  refine ct_introW RL "found" (by decide +kernel) rfl rfl rfl (Nat.le_of_ble_eq_true rfl) [some (.ref kp), some (.int x), some (.int ac), some (.int ki), some (.int dy), some (.int ix), none, none] rfl (fun C => ?_)
  refine g_aload0 dL_found_0 ?_
  refine g_iload1 dL_found_1 ?_
  refine g_iload2 dL_found_2 ?_
  refine g_iload3 dL_found_3 ?_
  refine g_iload4 dL_found_4 ?_
  refine g_iload5 dL_found_6 ?_
  refine g_callV5 kc6 hc md_X5_found dL_found_8 ml_L_47 im_X5_found se_X5_found hb (RmOk.of (Nat.le_of_ble_eq_true rfl) (Nat.le_of_ble_eq_true rfl) (Nat.le_of_ble_eq_true rfl) (Nat.le_of_ble_eq_true rfl) (Nat.le_of_ble_eq_true rfl)) (kr_B (fun w1 hw1 => ?_)) kx_B
  refine g_istore6 dL_found_11 ?_
  refine g_goto (tgt := 26) dL_found_13 (by decide) ?_
  refine g_iload6 dL_found_26 ?_
  refine g_iret dL_found_28 ?_ (Nat.le_of_ble_eq_true rfl) (Nat.le_of_ble_eq_true rfl)
  exact ⟨rfl, hw1⟩

theorem lw_found_v {G : Gx} {w : Wd} {kp : Nat} {ac dy ix ki x : Int32} {v : Int32} (hb : ∃ fs, w kp = some (eO 6 fs)) (hc : Ct G yX5_found kw_X5_found rm_X5_found [.ref kp, .int x, .int ac, .int ki, .int dy, .int ix] w (PV (.int (v)) w)) : Ct G yL_found kw_L_found rm_L_found [.ref kp, .int x, .int ac, .int ki, .int dy, .int ix] w (PV (.int (v)) w) := lw_found_0 (B := fun w' => w' = w) hb hc

set_option maxRecDepth 100000 in
theorem lw_found_IAE {G : Gx} {w : Wd} {kp : Nat} {ac dy ix ki x : Int32} (hb : ∃ fs, w kp = some (eO 6 fs)) (hc : Ct G yX5_found kw_X5_found rm_X5_found [.ref kp, .int x, .int ac, .int ki, .int dy, .int ix] w (PX "java/lang/IllegalArgumentException" w)) : Ct G yL_found kw_L_found rm_L_found [.ref kp, .int x, .int ac, .int ki, .int dy, .int ix] w (PV (.int (-71)) w) := by
  obtain ⟨fs, hb⟩ := hb
  refine ct_introW RL "found" (by decide +kernel) rfl rfl rfl (Nat.le_of_ble_eq_true rfl) [some (.ref kp), some (.int x), some (.int ac), some (.int ki), some (.int dy), some (.int ix), none, none] rfl (fun C => ?_)
  refine g_aload0 dL_found_0 ?_
  refine g_iload1 dL_found_1 ?_
  refine g_iload2 dL_found_2 ?_
  refine g_iload3 dL_found_3 ?_
  refine g_iload4 dL_found_4 ?_
  refine g_iload5 dL_found_6 ?_
  refine g_callV5 kc6 (hc.mono (P' := PE "java/lang/IllegalArgumentException" (fun w2 => w2 = w)) (fun r9 w9 h9 => h9)) md_X5_found dL_found_8 ml_L_47 im_X5_found se_X5_found hb (RmOk.of (Nat.le_of_ble_eq_true rfl) (Nat.le_of_ble_eq_true rfl) (Nat.le_of_ble_eq_true rfl) (Nat.le_of_ble_eq_true rfl) (Nat.le_of_ble_eq_true rfl)) kr_E (kx_E (fun w1 hw1 => ?_))
  refine gx_catch [] ⟨0, 13, 16, 14⟩ [⟨0, 13, 21, 32⟩] rfl (fun _ hz => nomatch hz) (by decide) (by decide) cl_L_14 ca_IllegalArgumentException_self (fun q => ?_)
  refine g_astore7 dL_found_16 ?_
  refine g_bipush (v := (-71)) dL_found_18 (by decide) ?_
  refine g_iret dL_found_20 ?_ (Nat.le_of_ble_eq_true rfl) (Nat.le_of_ble_eq_true rfl)
  exact ⟨rfl, hw1⟩

set_option maxRecDepth 100000 in
theorem lw_found_IOOB {G : Gx} {w : Wd} {kp : Nat} {ac dy ix ki x : Int32} (hb : ∃ fs, w kp = some (eO 6 fs)) (hc : Ct G yX5_found kw_X5_found rm_X5_found [.ref kp, .int x, .int ac, .int ki, .int dy, .int ix] w (PX "java/lang/IndexOutOfBoundsException" w)) : Ct G yL_found kw_L_found rm_L_found [.ref kp, .int x, .int ac, .int ki, .int dy, .int ix] w (PV (.int (-73)) w) := by
  obtain ⟨fs, hb⟩ := hb
  refine ct_introW RL "found" (by decide +kernel) rfl rfl rfl (Nat.le_of_ble_eq_true rfl) [some (.ref kp), some (.int x), some (.int ac), some (.int ki), some (.int dy), some (.int ix), none, none] rfl (fun C => ?_)
  refine g_aload0 dL_found_0 ?_
  refine g_iload1 dL_found_1 ?_
  refine g_iload2 dL_found_2 ?_
  refine g_iload3 dL_found_3 ?_
  refine g_iload4 dL_found_4 ?_
  refine g_iload5 dL_found_6 ?_
  refine g_callV5 kc6 (hc.mono (P' := PE "java/lang/IndexOutOfBoundsException" (fun w2 => w2 = w)) (fun r9 w9 h9 => h9)) md_X5_found dL_found_8 ml_L_47 im_X5_found se_X5_found hb (RmOk.of (Nat.le_of_ble_eq_true rfl) (Nat.le_of_ble_eq_true rfl) (Nat.le_of_ble_eq_true rfl) (Nat.le_of_ble_eq_true rfl) (Nat.le_of_ble_eq_true rfl)) kr_E (kx_E (fun w1 hw1 => ?_))
  refine gx_catch [⟨0, 13, 16, 14⟩] ⟨0, 13, 21, 32⟩ [] rfl (fun z hz => by obtain rfl := List.mem_singleton.mp hz; exact Or.inr ⟨by decide, _, cl_L_14, by decide⟩) (by decide) (by decide) cl_L_32 ca_IndexOutOfBoundsException_self (fun q => ?_)
  refine g_astore7 dL_found_21 ?_
  refine g_bipush (v := (-73)) dL_found_23 (by decide) ?_
  refine g_iret dL_found_25 ?_ (Nat.le_of_ble_eq_true rfl) (Nat.le_of_ble_eq_true rfl)
  exact ⟨rfl, hw1⟩

abbrev rm_L_read : Room := { frames := 10, cells := 10, slots := 60, locals := 172 }

set_option maxRecDepth 100000 in
theorem lw_read_0 {G : Gx} {w : Wd} {kp : Nat} {B : Wd → Prop} {d g l x : Int32} {v : Int32} (hb : ∃ fs, w kp = some (eO 6 fs)) (hc : Ct G yX5_read kw_X5_read rm_X5_read [.ref kp, .int x, .int d, .int g, .int l] w (PB (.int (v)) B)) : Ct G yL_read kw_L_read rm_L_read [.ref kp, .int x, .int d, .int g, .int l] w (PB (.int (v)) B) := by
  obtain ⟨fs, hb⟩ := hb
  refine ct_introW RL "read" (by decide +kernel) rfl rfl rfl (Nat.le_of_ble_eq_true rfl) [some (.ref kp), some (.int x), some (.int d), some (.int g), some (.int l), none, none] rfl (fun C => ?_)
  refine g_aload0 dL_read_0 ?_
  refine g_iload1 dL_read_1 ?_
  refine g_iload2 dL_read_2 ?_
  refine g_iload3 dL_read_3 ?_
  refine g_iload4 dL_read_4 ?_
  refine g_callV4 kc6 hc md_X5_read dL_read_6 ml_L_51 im_X5_read se_X5_read hb (RmOk.of (Nat.le_of_ble_eq_true rfl) (Nat.le_of_ble_eq_true rfl) (Nat.le_of_ble_eq_true rfl) (Nat.le_of_ble_eq_true rfl) (Nat.le_of_ble_eq_true rfl)) (kr_B (fun w1 hw1 => ?_)) kx_B
  refine g_istore5 dL_read_9 ?_
  refine g_goto (tgt := 29) dL_read_11 (by decide) ?_
  refine g_iload5 dL_read_29 ?_
  refine g_iret dL_read_31 ?_ (Nat.le_of_ble_eq_true rfl) (Nat.le_of_ble_eq_true rfl)
  exact ⟨rfl, hw1⟩

theorem lw_read_v {G : Gx} {w : Wd} {kp : Nat} {d g l x : Int32} {v : Int32} (hb : ∃ fs, w kp = some (eO 6 fs)) (hc : Ct G yX5_read kw_X5_read rm_X5_read [.ref kp, .int x, .int d, .int g, .int l] w (PV (.int (v)) w)) : Ct G yL_read kw_L_read rm_L_read [.ref kp, .int x, .int d, .int g, .int l] w (PV (.int (v)) w) := lw_read_0 (B := fun w' => w' = w) hb hc

set_option maxRecDepth 100000 in
theorem lw_read_IAE {G : Gx} {w : Wd} {kp : Nat} {d g l x : Int32} (hb : ∃ fs, w kp = some (eO 6 fs)) (hc : Ct G yX5_read kw_X5_read rm_X5_read [.ref kp, .int x, .int d, .int g, .int l] w (PX "java/lang/IllegalArgumentException" w)) : Ct G yL_read kw_L_read rm_L_read [.ref kp, .int x, .int d, .int g, .int l] w (PV (.int (-71)) w) := by
  obtain ⟨fs, hb⟩ := hb
  refine ct_introW RL "read" (by decide +kernel) rfl rfl rfl (Nat.le_of_ble_eq_true rfl) [some (.ref kp), some (.int x), some (.int d), some (.int g), some (.int l), none, none] rfl (fun C => ?_)
  refine g_aload0 dL_read_0 ?_
  refine g_iload1 dL_read_1 ?_
  refine g_iload2 dL_read_2 ?_
  refine g_iload3 dL_read_3 ?_
  refine g_iload4 dL_read_4 ?_
  refine g_callV4 kc6 (hc.mono (P' := PE "java/lang/IllegalArgumentException" (fun w2 => w2 = w)) (fun r9 w9 h9 => h9)) md_X5_read dL_read_6 ml_L_51 im_X5_read se_X5_read hb (RmOk.of (Nat.le_of_ble_eq_true rfl) (Nat.le_of_ble_eq_true rfl) (Nat.le_of_ble_eq_true rfl) (Nat.le_of_ble_eq_true rfl) (Nat.le_of_ble_eq_true rfl)) kr_E (kx_E (fun w1 hw1 => ?_))
  refine gx_catch [] ⟨0, 11, 14, 14⟩ [⟨0, 11, 19, 32⟩, ⟨0, 11, 24, 55⟩] rfl (fun _ hz => nomatch hz) (by decide) (by decide) cl_L_14 ca_IllegalArgumentException_self (fun q => ?_)
  refine g_astore6 dL_read_14 ?_
  refine g_bipush (v := (-71)) dL_read_16 (by decide) ?_
  refine g_iret dL_read_18 ?_ (Nat.le_of_ble_eq_true rfl) (Nat.le_of_ble_eq_true rfl)
  exact ⟨rfl, hw1⟩

set_option maxRecDepth 100000 in
theorem lw_read_IOOB {G : Gx} {w : Wd} {kp : Nat} {d g l x : Int32} (hb : ∃ fs, w kp = some (eO 6 fs)) (hc : Ct G yX5_read kw_X5_read rm_X5_read [.ref kp, .int x, .int d, .int g, .int l] w (PX "java/lang/IndexOutOfBoundsException" w)) : Ct G yL_read kw_L_read rm_L_read [.ref kp, .int x, .int d, .int g, .int l] w (PV (.int (-73)) w) := by
  obtain ⟨fs, hb⟩ := hb
  refine ct_introW RL "read" (by decide +kernel) rfl rfl rfl (Nat.le_of_ble_eq_true rfl) [some (.ref kp), some (.int x), some (.int d), some (.int g), some (.int l), none, none] rfl (fun C => ?_)
  refine g_aload0 dL_read_0 ?_
  refine g_iload1 dL_read_1 ?_
  refine g_iload2 dL_read_2 ?_
  refine g_iload3 dL_read_3 ?_
  refine g_iload4 dL_read_4 ?_
  refine g_callV4 kc6 (hc.mono (P' := PE "java/lang/IndexOutOfBoundsException" (fun w2 => w2 = w)) (fun r9 w9 h9 => h9)) md_X5_read dL_read_6 ml_L_51 im_X5_read se_X5_read hb (RmOk.of (Nat.le_of_ble_eq_true rfl) (Nat.le_of_ble_eq_true rfl) (Nat.le_of_ble_eq_true rfl) (Nat.le_of_ble_eq_true rfl) (Nat.le_of_ble_eq_true rfl)) kr_E (kx_E (fun w1 hw1 => ?_))
  refine gx_catch [⟨0, 11, 14, 14⟩] ⟨0, 11, 19, 32⟩ [⟨0, 11, 24, 55⟩] rfl (fun z hz => by obtain rfl := List.mem_singleton.mp hz; exact Or.inr ⟨by decide, _, cl_L_14, by decide⟩) (by decide) (by decide) cl_L_32 ca_IndexOutOfBoundsException_self (fun q => ?_)
  refine g_astore6 dL_read_19 ?_
  refine g_bipush (v := (-73)) dL_read_21 (by decide) ?_
  refine g_iret dL_read_23 ?_ (Nat.le_of_ble_eq_true rfl) (Nat.le_of_ble_eq_true rfl)
  exact ⟨rfl, hw1⟩

set_option maxRecDepth 100000 in
theorem lw_read_NSE {G : Gx} {w : Wd} {kp : Nat} {d g l x : Int32} (hb : ∃ fs, w kp = some (eO 6 fs)) (hc : Ct G yX5_read kw_X5_read rm_X5_read [.ref kp, .int x, .int d, .int g, .int l] w (PX "java/util/NoSuchElementException" w)) : Ct G yL_read kw_L_read rm_L_read [.ref kp, .int x, .int d, .int g, .int l] w (PV (.int (-74)) w) := by
  obtain ⟨fs, hb⟩ := hb
  refine ct_introW RL "read" (by decide +kernel) rfl rfl rfl (Nat.le_of_ble_eq_true rfl) [some (.ref kp), some (.int x), some (.int d), some (.int g), some (.int l), none, none] rfl (fun C => ?_)
  refine g_aload0 dL_read_0 ?_
  refine g_iload1 dL_read_1 ?_
  refine g_iload2 dL_read_2 ?_
  refine g_iload3 dL_read_3 ?_
  refine g_iload4 dL_read_4 ?_
  refine g_callV4 kc6 (hc.mono (P' := PE "java/util/NoSuchElementException" (fun w2 => w2 = w)) (fun r9 w9 h9 => h9)) md_X5_read dL_read_6 ml_L_51 im_X5_read se_X5_read hb (RmOk.of (Nat.le_of_ble_eq_true rfl) (Nat.le_of_ble_eq_true rfl) (Nat.le_of_ble_eq_true rfl) (Nat.le_of_ble_eq_true rfl) (Nat.le_of_ble_eq_true rfl)) kr_E (kx_E (fun w1 hw1 => ?_))
  refine gx_catch [⟨0, 11, 14, 14⟩, ⟨0, 11, 19, 32⟩] ⟨0, 11, 24, 55⟩ [] rfl (fun z hz => by rcases List.mem_cons.mp hz with rfl | hz; exact Or.inr ⟨by decide, _, cl_L_14, by decide⟩; obtain rfl := List.mem_singleton.mp hz; exact Or.inr ⟨by decide, _, cl_L_32, by decide⟩) (by decide) (by decide) cl_L_55 ca_NoSuchElementException_self (fun q => ?_)
  refine g_astore6 dL_read_24 ?_
  refine g_bipush (v := (-74)) dL_read_26 (by decide) ?_
  refine g_iret dL_read_28 ?_ (Nat.le_of_ble_eq_true rfl) (Nat.le_of_ble_eq_true rfl)
  exact ⟨rfl, hw1⟩

abbrev rm_L_view : Room := { frames := 8, cells := 10, slots := 60, locals := 129 }

set_option maxRecDepth 100000 in
theorem lw_view_0 {G : Gx} {w : Wd} {kp : Nat} {B : Wd → Prop} {b f l x : Int32} (hb : ∃ fs, w kp = some (eO 6 fs)) (hc : Ct G yX5_view kw_X5_view rm_X5_view [.ref kp, .int x, .int f, .int l, .int b] w (PN B)) : Ct G yL_view kw_L_view rm_L_view [.ref kp, .int x, .int f, .int l, .int b] w (PB (.int (0)) B) := by
  obtain ⟨fs, hb⟩ := hb
  refine ct_introW RL "view" (by decide +kernel) rfl rfl rfl (Nat.le_of_ble_eq_true rfl) [some (.ref kp), some (.int x), some (.int f), some (.int l), some (.int b), none] rfl (fun C => ?_)
  refine g_aload0 dL_view_0 ?_
  refine g_iload1 dL_view_1 ?_
  refine g_iload2 dL_view_2 ?_
  refine g_iload3 dL_view_3 ?_
  refine g_iload4 dL_view_4 ?_
  refine g_callV4 kc6 hc md_X5_view dL_view_6 ml_L_57 im_X5_view se_X5_view hb (RmOk.of (Nat.le_of_ble_eq_true rfl) (Nat.le_of_ble_eq_true rfl) (Nat.le_of_ble_eq_true rfl) (Nat.le_of_ble_eq_true rfl) (Nat.le_of_ble_eq_true rfl)) (kr_N (fun w1 hw1 => ?_)) kx_N
  refine g_goto (tgt := 17) dL_view_9 (by decide) ?_
  refine g_iconst (v := 0) dL_view_17 (by decide) ?_
  refine g_iret dL_view_18 ?_ (Nat.le_of_ble_eq_true rfl) (Nat.le_of_ble_eq_true rfl)
  exact ⟨rfl, hw1⟩

set_option maxRecDepth 100000 in
theorem lw_view_IAE {G : Gx} {w : Wd} {kp : Nat} {b f l x : Int32} (hb : ∃ fs, w kp = some (eO 6 fs)) (hc : Ct G yX5_view kw_X5_view rm_X5_view [.ref kp, .int x, .int f, .int l, .int b] w (PX "java/lang/IllegalArgumentException" w)) : Ct G yL_view kw_L_view rm_L_view [.ref kp, .int x, .int f, .int l, .int b] w (PV (.int (-71)) w) := by
  obtain ⟨fs, hb⟩ := hb
  refine ct_introW RL "view" (by decide +kernel) rfl rfl rfl (Nat.le_of_ble_eq_true rfl) [some (.ref kp), some (.int x), some (.int f), some (.int l), some (.int b), none] rfl (fun C => ?_)
  refine g_aload0 dL_view_0 ?_
  refine g_iload1 dL_view_1 ?_
  refine g_iload2 dL_view_2 ?_
  refine g_iload3 dL_view_3 ?_
  refine g_iload4 dL_view_4 ?_
  refine g_callV4 kc6 (hc.mono (P' := PE "java/lang/IllegalArgumentException" (fun w2 => w2 = w)) (fun r9 w9 h9 => h9)) md_X5_view dL_view_6 ml_L_57 im_X5_view se_X5_view hb (RmOk.of (Nat.le_of_ble_eq_true rfl) (Nat.le_of_ble_eq_true rfl) (Nat.le_of_ble_eq_true rfl) (Nat.le_of_ble_eq_true rfl) (Nat.le_of_ble_eq_true rfl)) kr_E (kx_E (fun w1 hw1 => ?_))
  refine gx_catch [] ⟨0, 9, 12, 14⟩ [] rfl (fun _ hz => nomatch hz) (by decide) (by decide) cl_L_14 ca_IllegalArgumentException_self (fun q => ?_)
  refine g_astore5 dL_view_12 ?_
  refine g_bipush (v := (-71)) dL_view_14 (by decide) ?_
  refine g_iret dL_view_16 ?_ (Nat.le_of_ble_eq_true rfl) (Nat.le_of_ble_eq_true rfl)
  exact ⟨rfl, hw1⟩

abbrev rm_L_span : Room := { frames := 8, cells := 10, slots := 60, locals := 127 }

set_option maxRecDepth 100000 in
theorem lw_span_0 {G : Gx} {w : Wd} {kp : Nat} {B : Wd → Prop} {x y : Int32} {v : Int32} (hb : ∃ fs, w kp = some (eO 6 fs)) (hc : Ct G yX5_span kw_X5_span rm_X5_span [.ref kp, .int x, .int y] w (PB (.int (v)) B)) : Ct G yL_span kw_L_span rm_L_span [.ref kp, .int x, .int y] w (PB (.int (v)) B) := by
  obtain ⟨fs, hb⟩ := hb
  refine ct_introW RL "span" (by decide +kernel) rfl rfl rfl (Nat.le_of_ble_eq_true rfl) [some (.ref kp), some (.int x), some (.int y), none, none] rfl (fun C => ?_)
  refine g_aload0 dL_span_0 ?_
  refine g_iload1 dL_span_1 ?_
  refine g_iload2 dL_span_2 ?_
  refine g_callV2 kc6 hc md_X5_span dL_span_3 ml_L_61 im_X5_span se_X5_span hb (RmOk.of (Nat.le_of_ble_eq_true rfl) (Nat.le_of_ble_eq_true rfl) (Nat.le_of_ble_eq_true rfl) (Nat.le_of_ble_eq_true rfl) (Nat.le_of_ble_eq_true rfl)) (kr_B (fun w1 hw1 => ?_)) kx_B
  refine g_istore3 dL_span_6 ?_
  refine g_goto (tgt := 15) dL_span_7 (by decide) ?_
  refine g_iload3 dL_span_15 ?_
  refine g_iret dL_span_16 ?_ (Nat.le_of_ble_eq_true rfl) (Nat.le_of_ble_eq_true rfl)
  exact ⟨rfl, hw1⟩

theorem lw_span_v {G : Gx} {w : Wd} {kp : Nat} {x y : Int32} {v : Int32} (hb : ∃ fs, w kp = some (eO 6 fs)) (hc : Ct G yX5_span kw_X5_span rm_X5_span [.ref kp, .int x, .int y] w (PV (.int (v)) w)) : Ct G yL_span kw_L_span rm_L_span [.ref kp, .int x, .int y] w (PV (.int (v)) w) := lw_span_0 (B := fun w' => w' = w) hb hc

set_option maxRecDepth 100000 in
theorem lw_span_IAE {G : Gx} {w : Wd} {kp : Nat} {x y : Int32} (hb : ∃ fs, w kp = some (eO 6 fs)) (hc : Ct G yX5_span kw_X5_span rm_X5_span [.ref kp, .int x, .int y] w (PX "java/lang/IllegalArgumentException" w)) : Ct G yL_span kw_L_span rm_L_span [.ref kp, .int x, .int y] w (PV (.int (-71)) w) := by
  obtain ⟨fs, hb⟩ := hb
  refine ct_introW RL "span" (by decide +kernel) rfl rfl rfl (Nat.le_of_ble_eq_true rfl) [some (.ref kp), some (.int x), some (.int y), none, none] rfl (fun C => ?_)
  refine g_aload0 dL_span_0 ?_
  refine g_iload1 dL_span_1 ?_
  refine g_iload2 dL_span_2 ?_
  refine g_callV2 kc6 (hc.mono (P' := PE "java/lang/IllegalArgumentException" (fun w2 => w2 = w)) (fun r9 w9 h9 => h9)) md_X5_span dL_span_3 ml_L_61 im_X5_span se_X5_span hb (RmOk.of (Nat.le_of_ble_eq_true rfl) (Nat.le_of_ble_eq_true rfl) (Nat.le_of_ble_eq_true rfl) (Nat.le_of_ble_eq_true rfl) (Nat.le_of_ble_eq_true rfl)) kr_E (kx_E (fun w1 hw1 => ?_))
  refine gx_catch [] ⟨0, 7, 10, 14⟩ [] rfl (fun _ hz => nomatch hz) (by decide) (by decide) cl_L_14 ca_IllegalArgumentException_self (fun q => ?_)
  refine g_astore4 dL_span_10 ?_
  refine g_bipush (v := (-71)) dL_span_12 (by decide) ?_
  refine g_iret dL_span_14 ?_ (Nat.le_of_ble_eq_true rfl) (Nat.le_of_ble_eq_true rfl)
  exact ⟨rfl, hw1⟩

abbrev rm_L_hold : Room := { frames := 7, cells := 10, slots := 60, locals := 105 }

set_option maxRecDepth 100000 in
theorem lw_hold_0 {G : Gx} {w : Wd} {kp : Nat} {B : Wd → Prop} {x : Int32} {y z : Bool} (hb : ∃ fs, w kp = some (eO 6 fs)) (hc : Ct G yX5_hold kw_X5_hold rm_X5_hold [.ref kp, .int x, .int (bI y)] w (PB (.int (bI z)) B)) : Ct G yL_hold kw_L_hold rm_L_hold [.ref kp, .int x, .int (bI y)] w (PB (.int (bI z)) B) := by
  obtain ⟨fs, hb⟩ := hb
  refine ct_introW RL "hold" (by decide +kernel) rfl rfl rfl (Nat.le_of_ble_eq_true rfl) [some (.ref kp), some (.int x), some (.int (bI y)), none, none] rfl (fun C => ?_)
  refine g_aload0 dL_hold_0 ?_
  refine g_iload1 dL_hold_1 ?_
  refine g_iload2 dL_hold_2 ?_
  refine g_callV2 kc6 hc md_X5_hold dL_hold_3 ml_L_64 im_X5_hold se_X5_hold hb (RmOk.of (Nat.le_of_ble_eq_true rfl) (Nat.le_of_ble_eq_true rfl) (Nat.le_of_ble_eq_true rfl) (Nat.le_of_ble_eq_true rfl) (Nat.le_of_ble_eq_true rfl)) (kr_B (fun w1 hw1 => ?_)) kx_B
  refine g_istore3 dL_hold_6 ?_
  refine g_goto (tgt := 15) dL_hold_7 (by decide) ?_
  refine g_iload3 dL_hold_15 ?_
  refine g_if_eq (tgt := 23) dL_hold_16 (by decide) (fun hz => ?_) (fun hz => ?_)
  · skip
    refine g_iconst (v := 0) dL_hold_23 (by decide) ?_
    refine g_iret dL_hold_24 ?_ (Nat.le_of_ble_eq_true rfl) (Nat.le_of_ble_eq_true rfl)
    first | exact ⟨by rw [show bI z = 0 from hz], hw1⟩ | exact ⟨by rw [bI_n.mp hz]; rfl, hw1⟩
  · skip
    refine g_iconst (v := 1) dL_hold_19 (by decide) ?_
    refine g_goto (tgt := 24) dL_hold_20 (by decide) ?_
    refine g_iret dL_hold_24 ?_ (Nat.le_of_ble_eq_true rfl) (Nat.le_of_ble_eq_true rfl)
    first | exact ⟨by rw [show bI z = 0 from hz], hw1⟩ | exact ⟨by rw [bI_n.mp hz]; rfl, hw1⟩

theorem lw_hold_v {G : Gx} {w : Wd} {kp : Nat} {x : Int32} {y z : Bool} (hb : ∃ fs, w kp = some (eO 6 fs)) (hc : Ct G yX5_hold kw_X5_hold rm_X5_hold [.ref kp, .int x, .int (bI y)] w (PV (.int (bI z)) w)) : Ct G yL_hold kw_L_hold rm_L_hold [.ref kp, .int x, .int (bI y)] w (PV (.int (bI z)) w) := lw_hold_0 (B := fun w' => w' = w) hb hc

set_option maxRecDepth 100000 in
theorem lw_hold_IAE {G : Gx} {w : Wd} {kp : Nat} {x : Int32} {y : Bool} (hb : ∃ fs, w kp = some (eO 6 fs)) (hc : Ct G yX5_hold kw_X5_hold rm_X5_hold [.ref kp, .int x, .int (bI y)] w (PX "java/lang/IllegalArgumentException" w)) : Ct G yL_hold kw_L_hold rm_L_hold [.ref kp, .int x, .int (bI y)] w (PV (.int (-71)) w) := by
  obtain ⟨fs, hb⟩ := hb
  refine ct_introW RL "hold" (by decide +kernel) rfl rfl rfl (Nat.le_of_ble_eq_true rfl) [some (.ref kp), some (.int x), some (.int (bI y)), none, none] rfl (fun C => ?_)
  refine g_aload0 dL_hold_0 ?_
  refine g_iload1 dL_hold_1 ?_
  refine g_iload2 dL_hold_2 ?_
  refine g_callV2 kc6 (hc.mono (P' := PE "java/lang/IllegalArgumentException" (fun w2 => w2 = w)) (fun r9 w9 h9 => h9)) md_X5_hold dL_hold_3 ml_L_64 im_X5_hold se_X5_hold hb (RmOk.of (Nat.le_of_ble_eq_true rfl) (Nat.le_of_ble_eq_true rfl) (Nat.le_of_ble_eq_true rfl) (Nat.le_of_ble_eq_true rfl) (Nat.le_of_ble_eq_true rfl)) kr_E (kx_E (fun w1 hw1 => ?_))
  refine gx_catch [] ⟨0, 7, 10, 14⟩ [] rfl (fun _ hz => nomatch hz) (by decide) (by decide) cl_L_14 ca_IllegalArgumentException_self (fun q => ?_)
  refine g_astore4 dL_hold_10 ?_
  refine g_bipush (v := (-71)) dL_hold_12 (by decide) ?_
  refine g_iret dL_hold_14 ?_ (Nat.le_of_ble_eq_true rfl) (Nat.le_of_ble_eq_true rfl)
  exact ⟨rfl, hw1⟩

abbrev rm_L_bundle : Room := { frames := 8, cells := 10, slots := 60, locals := 130 }

set_option maxRecDepth 100000 in
theorem lw_bundle_0 {G : Gx} {w : Wd} {kp : Nat} {B : Wd → Prop} {x y : Int32} {v : Int32} (hb : ∃ fs, w kp = some (eO 6 fs)) (hc : Ct G yX5_bundle kw_X5_bundle rm_X5_bundle [.ref kp, .int x, .int y] w (PB (.int (v)) B)) : Ct G yL_bundle kw_L_bundle rm_L_bundle [.ref kp, .int x, .int y] w (PB (.int (v)) B) := by
  obtain ⟨fs, hb⟩ := hb
  refine ct_introW RL "bundle" (by decide +kernel) rfl rfl rfl (Nat.le_of_ble_eq_true rfl) [some (.ref kp), some (.int x), some (.int y), none, none] rfl (fun C => ?_)
  refine g_aload0 dL_bundle_0 ?_
  refine g_iload1 dL_bundle_1 ?_
  refine g_iload2 dL_bundle_2 ?_
  refine g_callV2 kc6 hc md_X5_bundle dL_bundle_3 ml_L_68 im_X5_bundle se_X5_bundle hb (RmOk.of (Nat.le_of_ble_eq_true rfl) (Nat.le_of_ble_eq_true rfl) (Nat.le_of_ble_eq_true rfl) (Nat.le_of_ble_eq_true rfl) (Nat.le_of_ble_eq_true rfl)) (kr_B (fun w1 hw1 => ?_)) kx_B
  refine g_istore3 dL_bundle_6 ?_
  refine g_goto (tgt := 15) dL_bundle_7 (by decide) ?_
  refine g_iload3 dL_bundle_15 ?_
  refine g_iret dL_bundle_16 ?_ (Nat.le_of_ble_eq_true rfl) (Nat.le_of_ble_eq_true rfl)
  exact ⟨rfl, hw1⟩

theorem lw_bundle_v {G : Gx} {w : Wd} {kp : Nat} {x y : Int32} {v : Int32} (hb : ∃ fs, w kp = some (eO 6 fs)) (hc : Ct G yX5_bundle kw_X5_bundle rm_X5_bundle [.ref kp, .int x, .int y] w (PV (.int (v)) w)) : Ct G yL_bundle kw_L_bundle rm_L_bundle [.ref kp, .int x, .int y] w (PV (.int (v)) w) := lw_bundle_0 (B := fun w' => w' = w) hb hc

set_option maxRecDepth 100000 in
theorem lw_bundle_IAE {G : Gx} {w : Wd} {kp : Nat} {x y : Int32} (hb : ∃ fs, w kp = some (eO 6 fs)) (hc : Ct G yX5_bundle kw_X5_bundle rm_X5_bundle [.ref kp, .int x, .int y] w (PX "java/lang/IllegalArgumentException" w)) : Ct G yL_bundle kw_L_bundle rm_L_bundle [.ref kp, .int x, .int y] w (PV (.int (-71)) w) := by
  obtain ⟨fs, hb⟩ := hb
  refine ct_introW RL "bundle" (by decide +kernel) rfl rfl rfl (Nat.le_of_ble_eq_true rfl) [some (.ref kp), some (.int x), some (.int y), none, none] rfl (fun C => ?_)
  refine g_aload0 dL_bundle_0 ?_
  refine g_iload1 dL_bundle_1 ?_
  refine g_iload2 dL_bundle_2 ?_
  refine g_callV2 kc6 (hc.mono (P' := PE "java/lang/IllegalArgumentException" (fun w2 => w2 = w)) (fun r9 w9 h9 => h9)) md_X5_bundle dL_bundle_3 ml_L_68 im_X5_bundle se_X5_bundle hb (RmOk.of (Nat.le_of_ble_eq_true rfl) (Nat.le_of_ble_eq_true rfl) (Nat.le_of_ble_eq_true rfl) (Nat.le_of_ble_eq_true rfl) (Nat.le_of_ble_eq_true rfl)) kr_E (kx_E (fun w1 hw1 => ?_))
  refine gx_catch [] ⟨0, 7, 10, 14⟩ [] rfl (fun _ hz => nomatch hz) (by decide) (by decide) cl_L_14 ca_IllegalArgumentException_self (fun q => ?_)
  refine g_astore4 dL_bundle_10 ?_
  refine g_bipush (v := (-71)) dL_bundle_12 (by decide) ?_
  refine g_iret dL_bundle_14 ?_ (Nat.le_of_ble_eq_true rfl) (Nat.le_of_ble_eq_true rfl)
  exact ⟨rfl, hw1⟩

