/-! The keeper's methods that walk no list. -/
/-- the numbers of the heap, without places, counts of changes, rooms -/
def KS.v (S : KS) : KS := ((S.sad (fun _ _ => 0)).smo (fun _ => 0)).scp (fun _ => 0)
def KQ (G : Gx) (X : Nat → Prop) (w0 : Wd) (S T : KS) (w : Wd) : Prop := ∃ S', Kl G X w0 S' w ∧ S'.v = T.v ∧ S'.ad 0 0 = S.ad 0 0
theorem kp_oP {S : KS} {r q : Nat} (h : S.ad 6 r = q) : (kp S).set 6 (.ref q) = kp (S.soP r) := by subst h; rfl
theorem kp_oR {S : KS} {r q : Nat} (h : S.ad 5 r = q) : (kp S).set 5 (.ref q) = kp (S.soR r) := by subst h; rfl
theorem up_fix {w : Wd} {a b : Nat} {e f g : va_E} (h : a ≠ b) : up (up (up w a e) b f) a g = up (up w b f) a g := by rw [up_cm h, up_up]
theorem gslot_le {n cap : Nat} (h1 : n ≤ cap) (h2 : cap = 0 ∨ 10 ≤ cap ∧ cap ≤ 200) (h3 : n ≤ 120) : gslot n cap ≤ 200 := by
  unfold gslot
  by_cases h : n < cap
  · rw [if_pos h]; omega
  · rw [if_neg h]; exact (gcap_bounds (by omega) (by omega)).2.1
theorem Kl.gsl {G : Gx} {X : Nat → Prop} {w0 w : Wd} {S : KS} (h : Kl G X w0 S w) {l : Nat} (hl : l < S.nn 3) (hm : S.ln l ≤ 120) : gslot (S.ln l) (S.cp l) ≤ 200 := gslot_le (h.cl.cp l hl).1 (h.cl.cp l hl).2 hm

abbrev rm_X5_pass : Room := { frames := 7, cells := 10, slots := 60, locals := 104 }

set_option maxRecDepth 100000 in
theorem kt_pass_a {G : Gx} {X : Nat → Prop} {w0 w : Wd} {S : KS} (hK : Kl G X w0 S w) {d : Int32} (h : inb d 1 1000 = false) : Ct G yX5_pass kw_X5_pass rm_X5_pass [.ref (S.ad 0 0), .int d] w (PX "java/lang/IllegalArgumentException" w) := by
  refine ct_intro RX5 "pass" (by decide +kernel) rfl rfl rfl (Nat.le_of_ble_eq_true rfl) [some (.ref (S.ad 0 0)), some (.int d)] rfl (fun C => ?_)
  refine g_iload1 dX5_pass_0 ?_
  refine g_iconst (v := 1) dX5_pass_1 (by decide) ?_
  refine g_sipush (v := 1000) dX5_pass_2 (by decide) ?_
  refine g_callS3 (ct_dr_no h) md_X5_demandRange dX5_pass_5 ml_X5_71 st_X5_demandRange (RmOk.of (Nat.le_of_ble_eq_true rfl) (Nat.le_of_ble_eq_true rfl) (Nat.le_of_ble_eq_true rfl) (Nat.le_of_ble_eq_true rfl) (Nat.le_of_ble_eq_true rfl)) kr_X (kx_X ?_)
  refine gx_out (fun _ h => nomatch h) ?_ (Nat.le_of_ble_eq_true rfl) (Nat.le_of_ble_eq_true rfl)
  exact ⟨rfl, rfl⟩

set_option maxRecDepth 100000 in
theorem kt_pass_b {G : Gx} {X : Nat → Prop} {w0 w : Wd} {S : KS} (hK : Kl G X w0 S w) {d : Int32} (h : inb d 1 1000 = true) (h2 : ¬ S.day + d ≤ 9999) : Ct G yX5_pass kw_X5_pass rm_X5_pass [.ref (S.ad 0 0), .int d] w (PX "java/lang/IllegalStateException" w) := by
  refine ct_intro RX5 "pass" (by decide +kernel) rfl rfl rfl (Nat.le_of_ble_eq_true rfl) [some (.ref (S.ad 0 0)), some (.int d)] rfl (fun C => ?_)
  refine g_iload1 dX5_pass_0 ?_
  refine g_iconst (v := 1) dX5_pass_1 (by decide) ?_
  refine g_sipush (v := 1000) dX5_pass_2 (by decide) ?_
  refine g_callS3 (ct_dr_ok h) md_X5_demandRange dX5_pass_5 ml_X5_71 st_X5_demandRange (RmOk.of (Nat.le_of_ble_eq_true rfl) (Nat.le_of_ble_eq_true rfl) (Nat.le_of_ble_eq_true rfl) (Nat.le_of_ble_eq_true rfl) (Nat.le_of_ble_eq_true rfl)) (kr_U ?_) kx_U
  refine g_aload0 dX5_pass_8 ?_
  refine g_getf kc6 dX5_pass_9 fl_X5_74 (by decide) hK.g0 rfl ?_
  refine g_iload1 dX5_pass_12 ?_
  refine g_iadd dX5_pass_13 ?_
  refine g_sipush (v := 9999) dX5_pass_14 (by decide) ?_
  refine g_icmp_le_f (tgt := 30) dX5_pass_17 (by decide) h2 ?_
  refine g_throwS tw_X5_78_80_82 dX5_pass_20 dX5_pass_23 dX5_pass_24 dX5_pass_26 dX5_pass_29 (fun _ h => nomatch h) (Nat.le_of_ble_eq_true rfl) (Nat.le_of_ble_eq_true rfl) ?_ (Nat.le_of_ble_eq_true rfl) (Nat.le_of_ble_eq_true rfl)
  exact ⟨rfl, rfl⟩

set_option maxRecDepth 100000 in
theorem kt_pass_c {G : Gx} {X : Nat → Prop} {w0 w : Wd} {S : KS} (hK : Kl G X w0 S w) {d : Int32} (h : inb d 1 1000 = true) (h2 : S.day + d ≤ 9999) : Ct G yX5_pass kw_X5_pass rm_X5_pass [.ref (S.ad 0 0), .int d] w (PB (.int (S.day + d)) (fun w' => Kl G X w0 (S.sday (S.day + d)) w')) := by
  refine ct_intro RX5 "pass" (by decide +kernel) rfl rfl rfl (Nat.le_of_ble_eq_true rfl) [some (.ref (S.ad 0 0)), some (.int d)] rfl (fun C => ?_)
  refine g_iload1 dX5_pass_0 ?_
  refine g_iconst (v := 1) dX5_pass_1 (by decide) ?_
  refine g_sipush (v := 1000) dX5_pass_2 (by decide) ?_
  refine g_callS3 (ct_dr_ok h) md_X5_demandRange dX5_pass_5 ml_X5_71 st_X5_demandRange (RmOk.of (Nat.le_of_ble_eq_true rfl) (Nat.le_of_ble_eq_true rfl) (Nat.le_of_ble_eq_true rfl) (Nat.le_of_ble_eq_true rfl) (Nat.le_of_ble_eq_true rfl)) (kr_U ?_) kx_U
  refine g_aload0 dX5_pass_8 ?_
  refine g_getf kc6 dX5_pass_9 fl_X5_74 (by decide) hK.g0 rfl ?_
  refine g_iload1 dX5_pass_12 ?_
  refine g_iadd dX5_pass_13 ?_
  refine g_sipush (v := 9999) dX5_pass_14 (by decide) ?_
  refine g_icmp_le_t (tgt := 30) dX5_pass_17 (by decide) h2 ?_
  refine g_aload0 dX5_pass_30 ?_
  refine g_dup dX5_pass_31 rfl ?_
  refine g_getf kc6 dX5_pass_32 fl_X5_74 (by decide) hK.g0 rfl ?_
  refine g_iload1 dX5_pass_35 ?_
  refine g_iadd dX5_pass_36 ?_
  refine g_putf (fs' := (kp (S.sday (S.day + d)))) kc6 dX5_pass_37 fl_X5_74 (by decide) rfl hK.g0 hK.b0 rfl rfl (Nat.le_of_ble_eq_true rfl) rfl ?_
  have hK1 := hK.pDay (S.day + d)
  refine g_aload0 dX5_pass_40 ?_
  refine g_getf kc6 dX5_pass_41 fl_X5_74 (by decide) hK1.g0 rfl ?_
  refine g_iret dX5_pass_44 ?_ (Nat.le_of_ble_eq_true rfl) (Nat.le_of_ble_eq_true rfl)
  exact ⟨rfl, hK1⟩

abbrev rm_X5_format : Room := { frames := 7, cells := 12, slots := 280, locals := 191 }

set_option maxRecDepth 100000 in
theorem kt_format_a1 {G : Gx} {X : Nat → Prop} {w0 w : Wd} {S : KS} (hK : Kl G X w0 S w) {a b d : Int32} (h1 : inb a 0 9999 = false) : Ct G yX5_format kw_X5_format rm_X5_format [.ref (S.ad 0 0), .int a, .int b, .int d] w (PX "java/lang/IllegalArgumentException" w) := by
  refine ct_intro RX5 "format" (by decide +kernel) rfl rfl rfl (Nat.le_of_ble_eq_true rfl) [some (.ref (S.ad 0 0)), some (.int a), some (.int b), some (.int d)] rfl (fun C => ?_)
  refine g_iload1 dX5_format_0 ?_
  refine g_iconst (v := 0) dX5_format_1 (by decide) ?_
  refine g_sipush (v := 9999) dX5_format_2 (by decide) ?_
  refine g_callS3 (ct_dr_no h1) md_X5_demandRange dX5_format_5 ml_X5_71 st_X5_demandRange (RmOk.of (Nat.le_of_ble_eq_true rfl) (Nat.le_of_ble_eq_true rfl) (Nat.le_of_ble_eq_true rfl) (Nat.le_of_ble_eq_true rfl) (Nat.le_of_ble_eq_true rfl)) kr_X (kx_X ?_)
  refine gx_out (fun _ h => nomatch h) ?_ (Nat.le_of_ble_eq_true rfl) (Nat.le_of_ble_eq_true rfl)
  exact ⟨rfl, rfl⟩

set_option maxRecDepth 100000 in
theorem kt_format_a2 {G : Gx} {X : Nat → Prop} {w0 w : Wd} {S : KS} (hK : Kl G X w0 S w) {a b d : Int32} (h1 : inb a 0 9999 = true) (h2 : inb b 0 7 = false) : Ct G yX5_format kw_X5_format rm_X5_format [.ref (S.ad 0 0), .int a, .int b, .int d] w (PX "java/lang/IllegalArgumentException" w) := by
  refine ct_intro RX5 "format" (by decide +kernel) rfl rfl rfl (Nat.le_of_ble_eq_true rfl) [some (.ref (S.ad 0 0)), some (.int a), some (.int b), some (.int d)] rfl (fun C => ?_)
  refine g_iload1 dX5_format_0 ?_
  refine g_iconst (v := 0) dX5_format_1 (by decide) ?_
  refine g_sipush (v := 9999) dX5_format_2 (by decide) ?_
  refine g_callS3 (ct_dr_ok h1) md_X5_demandRange dX5_format_5 ml_X5_71 st_X5_demandRange (RmOk.of (Nat.le_of_ble_eq_true rfl) (Nat.le_of_ble_eq_true rfl) (Nat.le_of_ble_eq_true rfl) (Nat.le_of_ble_eq_true rfl) (Nat.le_of_ble_eq_true rfl)) (kr_U ?_) kx_U
  refine g_iload2 dX5_format_8 ?_
  refine g_iconst (v := 0) dX5_format_9 (by decide) ?_
  refine g_bipush (v := 7) dX5_format_10 (by decide) ?_
  refine g_callS3 (ct_dr_no h2) md_X5_demandRange dX5_format_12 ml_X5_71 st_X5_demandRange (RmOk.of (Nat.le_of_ble_eq_true rfl) (Nat.le_of_ble_eq_true rfl) (Nat.le_of_ble_eq_true rfl) (Nat.le_of_ble_eq_true rfl) (Nat.le_of_ble_eq_true rfl)) kr_X (kx_X ?_)
  refine gx_out (fun _ h => nomatch h) ?_ (Nat.le_of_ble_eq_true rfl) (Nat.le_of_ble_eq_true rfl)
  exact ⟨rfl, rfl⟩

set_option maxRecDepth 100000 in
theorem kt_format_a3 {G : Gx} {X : Nat → Prop} {w0 w : Wd} {S : KS} (hK : Kl G X w0 S w) {a b d : Int32} (h1 : inb a 0 9999 = true) (h2 : inb b 0 7 = true) (h3 : inb d 0 7 = false) : Ct G yX5_format kw_X5_format rm_X5_format [.ref (S.ad 0 0), .int a, .int b, .int d] w (PX "java/lang/IllegalArgumentException" w) := by
  refine ct_intro RX5 "format" (by decide +kernel) rfl rfl rfl (Nat.le_of_ble_eq_true rfl) [some (.ref (S.ad 0 0)), some (.int a), some (.int b), some (.int d)] rfl (fun C => ?_)
  refine g_iload1 dX5_format_0 ?_
  refine g_iconst (v := 0) dX5_format_1 (by decide) ?_
  refine g_sipush (v := 9999) dX5_format_2 (by decide) ?_
  refine g_callS3 (ct_dr_ok h1) md_X5_demandRange dX5_format_5 ml_X5_71 st_X5_demandRange (RmOk.of (Nat.le_of_ble_eq_true rfl) (Nat.le_of_ble_eq_true rfl) (Nat.le_of_ble_eq_true rfl) (Nat.le_of_ble_eq_true rfl) (Nat.le_of_ble_eq_true rfl)) (kr_U ?_) kx_U
  refine g_iload2 dX5_format_8 ?_
  refine g_iconst (v := 0) dX5_format_9 (by decide) ?_
  refine g_bipush (v := 7) dX5_format_10 (by decide) ?_
  refine g_callS3 (ct_dr_ok h2) md_X5_demandRange dX5_format_12 ml_X5_71 st_X5_demandRange (RmOk.of (Nat.le_of_ble_eq_true rfl) (Nat.le_of_ble_eq_true rfl) (Nat.le_of_ble_eq_true rfl) (Nat.le_of_ble_eq_true rfl) (Nat.le_of_ble_eq_true rfl)) (kr_U ?_) kx_U
  refine g_iload3 dX5_format_15 ?_
  refine g_iconst (v := 0) dX5_format_16 (by decide) ?_
  refine g_bipush (v := 7) dX5_format_17 (by decide) ?_
  refine g_callS3 (ct_dr_no h3) md_X5_demandRange dX5_format_19 ml_X5_71 st_X5_demandRange (RmOk.of (Nat.le_of_ble_eq_true rfl) (Nat.le_of_ble_eq_true rfl) (Nat.le_of_ble_eq_true rfl) (Nat.le_of_ble_eq_true rfl) (Nat.le_of_ble_eq_true rfl)) kr_X (kx_X ?_)
  refine gx_out (fun _ h => nomatch h) ?_ (Nat.le_of_ble_eq_true rfl) (Nat.le_of_ble_eq_true rfl)
  exact ⟨rfl, rfl⟩

set_option maxRecDepth 100000 in
theorem kt_format_b {G : Gx} {X : Nat → Prop} {w0 w : Wd} {S : KS} (hK : Kl G X w0 S w) {a b d : Int32} (h1 : inb a 0 9999 = true) (h2 : inb b 0 7 = true) (h3 : inb d 0 7 = true) (h4 : ¬ S.ln 0 < 10) : Ct G yX5_format kw_X5_format rm_X5_format [.ref (S.ad 0 0), .int a, .int b, .int d] w (PX "java/lang/IllegalStateException" w) := by
  have hr3 : 0 < S.nn 3 := by have := hK.u3; omega
  have hln : S.ln 0 ≤ 200 := by have := hK.cl.cp _ hr3; omega
  refine ct_intro RX5 "format" (by decide +kernel) rfl rfl rfl (Nat.le_of_ble_eq_true rfl) [some (.ref (S.ad 0 0)), some (.int a), some (.int b), some (.int d)] rfl (fun C => ?_)
  refine g_iload1 dX5_format_0 ?_
  refine g_iconst (v := 0) dX5_format_1 (by decide) ?_
  refine g_sipush (v := 9999) dX5_format_2 (by decide) ?_
  refine g_callS3 (ct_dr_ok h1) md_X5_demandRange dX5_format_5 ml_X5_71 st_X5_demandRange (RmOk.of (Nat.le_of_ble_eq_true rfl) (Nat.le_of_ble_eq_true rfl) (Nat.le_of_ble_eq_true rfl) (Nat.le_of_ble_eq_true rfl) (Nat.le_of_ble_eq_true rfl)) (kr_U ?_) kx_U
  refine g_iload2 dX5_format_8 ?_
  refine g_iconst (v := 0) dX5_format_9 (by decide) ?_
  refine g_bipush (v := 7) dX5_format_10 (by decide) ?_
  refine g_callS3 (ct_dr_ok h2) md_X5_demandRange dX5_format_12 ml_X5_71 st_X5_demandRange (RmOk.of (Nat.le_of_ble_eq_true rfl) (Nat.le_of_ble_eq_true rfl) (Nat.le_of_ble_eq_true rfl) (Nat.le_of_ble_eq_true rfl) (Nat.le_of_ble_eq_true rfl)) (kr_U ?_) kx_U
  refine g_iload3 dX5_format_15 ?_
  refine g_iconst (v := 0) dX5_format_16 (by decide) ?_
  refine g_bipush (v := 7) dX5_format_17 (by decide) ?_
  refine g_callS3 (ct_dr_ok h3) md_X5_demandRange dX5_format_19 ml_X5_71 st_X5_demandRange (RmOk.of (Nat.le_of_ble_eq_true rfl) (Nat.le_of_ble_eq_true rfl) (Nat.le_of_ble_eq_true rfl) (Nat.le_of_ble_eq_true rfl) (Nat.le_of_ble_eq_true rfl)) (kr_U ?_) kx_U
  refine g_aload0 dX5_format_22 ?_
  refine g_getf kc6 dX5_format_23 fl_X5_21 (by decide) hK.g0 rfl ?_
  refine g_callV0 kc0 (hK.ctSize hr3) md_Jx4a65c_size_8abf5 dX5_format_26 ml_X5_85 im_Jx4a65c_size_8abf5 se_Jx4a65c_size_8abf5 (hK.g3 hr3) (RmOk.of (Nat.le_of_ble_eq_true rfl) (Nat.le_of_ble_eq_true rfl) (Nat.le_of_ble_eq_true rfl) (Nat.le_of_ble_eq_true rfl) (Nat.le_of_ble_eq_true rfl)) (kr_V ?_) kx_V
  refine g_bipush (v := 10) dX5_format_29 (by decide) ?_
  refine g_icmp_lt_f (tgt := 44) dX5_format_31 (by decide) (fun z => h4 ((nI_ltI (by omega) (by decide)).mp z)) ?_
  refine g_throwS tw_X5_78_89_82 dX5_format_34 dX5_format_37 dX5_format_38 dX5_format_40 dX5_format_43 (fun _ h => nomatch h) (Nat.le_of_ble_eq_true rfl) (Nat.le_of_ble_eq_true rfl) ?_ (Nat.le_of_ble_eq_true rfl) (Nat.le_of_ble_eq_true rfl)
  exact ⟨rfl, rfl⟩

set_option maxRecDepth 100000 in
theorem kt_format_c {G : Gx} {X : Nat → Prop} {w0 w : Wd} {S : KS} (hK : Kl G X w0 S w) {a b d : Int32} (h1 : inb a 0 9999 = true) (h2 : inb b 0 7 = true) (h3 : inb d 0 7 = true) (h4 : S.ln 0 < 10) (h5 : S.nn 2 = S.ln 0) : Ct G yX5_format kw_X5_format rm_X5_format [.ref (S.ad 0 0), .int a, .int b, .int d] w (PB (.int (nI (S.ln 0 + 1))) (KQ G X w0 S (((S.snn (updN S.nn 2 (S.nn 2 + 1))).sfm (updF S.fm (S.nn 2) (f3 a b d))).sln (updN S.ln 0 (S.ln 0 + 1))))) := by
  have hr3 : 0 < S.nn 3 := by have := hK.u3; omega
  have hln : S.ln 0 ≤ 200 := by have := hK.cl.cp _ hr3; omega
  refine ct_intro RX5 "format" (by decide +kernel) rfl rfl rfl (Nat.le_of_ble_eq_true rfl) [some (.ref (S.ad 0 0)), some (.int a), some (.int b), some (.int d)] rfl (fun C => ?_)
  refine g_iload1 dX5_format_0 ?_
  refine g_iconst (v := 0) dX5_format_1 (by decide) ?_
  refine g_sipush (v := 9999) dX5_format_2 (by decide) ?_
  refine g_callS3 (ct_dr_ok h1) md_X5_demandRange dX5_format_5 ml_X5_71 st_X5_demandRange (RmOk.of (Nat.le_of_ble_eq_true rfl) (Nat.le_of_ble_eq_true rfl) (Nat.le_of_ble_eq_true rfl) (Nat.le_of_ble_eq_true rfl) (Nat.le_of_ble_eq_true rfl)) (kr_U ?_) kx_U
  refine g_iload2 dX5_format_8 ?_
  refine g_iconst (v := 0) dX5_format_9 (by decide) ?_
  refine g_bipush (v := 7) dX5_format_10 (by decide) ?_
  refine g_callS3 (ct_dr_ok h2) md_X5_demandRange dX5_format_12 ml_X5_71 st_X5_demandRange (RmOk.of (Nat.le_of_ble_eq_true rfl) (Nat.le_of_ble_eq_true rfl) (Nat.le_of_ble_eq_true rfl) (Nat.le_of_ble_eq_true rfl) (Nat.le_of_ble_eq_true rfl)) (kr_U ?_) kx_U
  refine g_iload3 dX5_format_15 ?_
  refine g_iconst (v := 0) dX5_format_16 (by decide) ?_
  refine g_bipush (v := 7) dX5_format_17 (by decide) ?_
  refine g_callS3 (ct_dr_ok h3) md_X5_demandRange dX5_format_19 ml_X5_71 st_X5_demandRange (RmOk.of (Nat.le_of_ble_eq_true rfl) (Nat.le_of_ble_eq_true rfl) (Nat.le_of_ble_eq_true rfl) (Nat.le_of_ble_eq_true rfl) (Nat.le_of_ble_eq_true rfl)) (kr_U ?_) kx_U
  refine g_aload0 dX5_format_22 ?_
  refine g_getf kc6 dX5_format_23 fl_X5_21 (by decide) hK.g0 rfl ?_
  refine g_callV0 kc0 (hK.ctSize hr3) md_Jx4a65c_size_8abf5 dX5_format_26 ml_X5_85 im_Jx4a65c_size_8abf5 se_Jx4a65c_size_8abf5 (hK.g3 hr3) (RmOk.of (Nat.le_of_ble_eq_true rfl) (Nat.le_of_ble_eq_true rfl) (Nat.le_of_ble_eq_true rfl) (Nat.le_of_ble_eq_true rfl) (Nat.le_of_ble_eq_true rfl)) (kr_V ?_) kx_V
  refine g_bipush (v := 10) dX5_format_29 (by decide) ?_
  refine g_icmp_lt_t (tgt := 44) dX5_format_31 (by decide) (nI_lt h4 (by decide)) ?_
  refine g_aload0 dX5_format_44 ?_
  refine g_getf kc6 dX5_format_45 fl_X5_21 (by decide) hK.g0 rfl ?_
  refine g_new (fs := [.int 0, .int 0, .int 0]) kc2 dX5_format_48 cl_X5_9 ins_X1 ini_X1 (by intro j hj; rcases (show j = 0 ∨ j = 1 ∨ j = 2 by omega) with rfl | rfl | rfl <;> rfl) (Nat.le_of_ble_eq_true rfl) (Nat.le_of_ble_eq_true rfl) (fun q qn qb => ?_)
  refine g_dup dX5_format_51 rfl ?_
  refine g_iload1 dX5_format_52 ?_
  refine g_iload2 dX5_format_53 ?_
  refine g_iload3 dX5_format_54 ?_
  refine g_callIN3 (ct_X1_init (up_s _ _ _) qb) md_X1_init dX5_format_55 ml_X5_11 rfl im_X1_init (RmOk.of (Nat.le_of_ble_eq_true rfl) (Nat.le_of_ble_eq_true rfl) (Nat.le_of_ble_eq_true rfl) (Nat.le_of_ble_eq_true rfl) (Nat.le_of_ble_eq_true rfl)) (kr_N (fun w1 hw1 => ?_)) kn_N
  rw [up_up] at hw1
  subst hw1
  have hK1 := hK.newF qn qb a b d
  have hva : q = elK ((S.one 2 q).sfm (updF S.fm (S.nn 2) (f3 a b d))) 0 (S.ln 0) := by
    show q = ad2 S.ad 2 (S.nn 2) q 2 (S.ln 0)
    rw [← h5, ad2_s]
  have hr4 : 0 < ((S.one 2 q).sfm (updF S.fm (S.nn 2) (f3 a b d))).nn 3 := hr3
  refine g_callV1 kc0 (hK1.ctAddF (nl := 200) hr4 (by show S.ln 0 ≤ 120; omega) hva (by show S.ln 0 < updN S.nn 2 (S.nn 2 + 1) 2; rw [updN_s]; omega) (hK1.gsl hr4 (by show S.ln 0 ≤ 120; omega))) md_Jx4a65c_add_9ea2d dX5_format_58 ml_X5_61 im_Jx4a65c_add_9ea2d se_Jx4a65c_add_9ea2d (hK1.g3 hr4) (RmOk.of (Nat.le_of_ble_eq_true rfl) (Nat.le_of_ble_eq_true rfl) (Nat.le_of_ble_eq_true rfl) (Nat.le_of_ble_eq_true rfl) (Nat.le_of_ble_eq_true rfl)) (kr_B (fun w1 hw1 => ?_)) kx_B
  obtain ⟨dd, cap, hK2, -⟩ := hw1
  refine g_pop dX5_format_61 rfl ?_
  refine g_aload0 dX5_format_62 ?_
  refine g_getf kc6 dX5_format_63 fl_X5_21 (by decide) hK2.g0 rfl ?_
  refine g_callV0 kc0 (hK2.ctSize (l := 0) hr3) md_Jx4a65c_size_8abf5 dX5_format_66 ml_X5_85 im_Jx4a65c_size_8abf5 se_Jx4a65c_size_8abf5 (hK2.g3 (i := 0) hr3) (RmOk.of (Nat.le_of_ble_eq_true rfl) (Nat.le_of_ble_eq_true rfl) (Nat.le_of_ble_eq_true rfl) (Nat.le_of_ble_eq_true rfl) (Nat.le_of_ble_eq_true rfl)) (kr_V ?_) kx_V
  refine g_iret dX5_format_69 ?_ (Nat.le_of_ble_eq_true rfl) (Nat.le_of_ble_eq_true rfl)
  exact ⟨rfl, _, hK2, rfl, rfl⟩

abbrev rm_X5_line : Room := { frames := 7, cells := 10, slots := 60, locals := 104 }

set_option maxRecDepth 100000 in
theorem kt_line_a {G : Gx} {X : Nat → Prop} {w0 w : Wd} {S : KS} (hK : Kl G X w0 S w) {x : Int32} (h1 : inb x 0 99 = false) : Ct G yX5_line kw_X5_line rm_X5_line [.ref (S.ad 0 0), .int x] w (PX "java/lang/IllegalArgumentException" w) := by
  refine ct_intro RX5 "line" (by decide +kernel) rfl rfl rfl (Nat.le_of_ble_eq_true rfl) [some (.ref (S.ad 0 0)), some (.int x)] rfl (fun C => ?_)
  refine g_iload1 dX5_line_0 ?_
  refine g_iconst (v := 0) dX5_line_1 (by decide) ?_
  refine g_bipush (v := 99) dX5_line_2 (by decide) ?_
  refine g_callS3 (ct_dr_no h1) md_X5_demandRange dX5_line_4 ml_X5_71 st_X5_demandRange (RmOk.of (Nat.le_of_ble_eq_true rfl) (Nat.le_of_ble_eq_true rfl) (Nat.le_of_ble_eq_true rfl) (Nat.le_of_ble_eq_true rfl) (Nat.le_of_ble_eq_true rfl)) kr_X (kx_X ?_)
  refine gx_out (fun _ h => nomatch h) ?_ (Nat.le_of_ble_eq_true rfl) (Nat.le_of_ble_eq_true rfl)
  exact ⟨rfl, rfl⟩

set_option maxRecDepth 100000 in
theorem kt_line_b {G : Gx} {X : Nat → Prop} {w0 w : Wd} {S : KS} (hK : Kl G X w0 S w) {x : Int32} (h1 : inb x 0 99 = true) (h2 : S.pS S.oP = 8) : Ct G yX5_line kw_X5_line rm_X5_line [.ref (S.ad 0 0), .int x] w (PX "java/lang/IllegalStateException" w) := by
  have hi6 := hK.cl.oP
  have hi7 : S.oP < S.nn 7 := Nat.lt_of_lt_of_le hi6 hK.cl.c7
  have hp := hK.g6 hi6
  rw [h2] at hp
  refine ct_intro RX5 "line" (by decide +kernel) rfl rfl rfl (Nat.le_of_ble_eq_true rfl) [some (.ref (S.ad 0 0)), some (.int x)] rfl (fun C => ?_)
  refine g_iload1 dX5_line_0 ?_
  refine g_iconst (v := 0) dX5_line_1 (by decide) ?_
  refine g_bipush (v := 99) dX5_line_2 (by decide) ?_
  refine g_callS3 (ct_dr_ok h1) md_X5_demandRange dX5_line_4 ml_X5_71 st_X5_demandRange (RmOk.of (Nat.le_of_ble_eq_true rfl) (Nat.le_of_ble_eq_true rfl) (Nat.le_of_ble_eq_true rfl) (Nat.le_of_ble_eq_true rfl) (Nat.le_of_ble_eq_true rfl)) (kr_U ?_) kx_U
  refine g_aload0 dX5_line_7 ?_
  refine g_getf kc6 dX5_line_8 fl_X5_38 (by decide) hK.g0 rfl ?_
  refine g_iload1 dX5_line_11 ?_
  refine g_callVN1 kc3 (ct_put_no hp (hK.g7 hi7)) md_X2_put dX5_line_12 ml_X5_91 im_X2_put se_X2_put hp (RmOk.of (Nat.le_of_ble_eq_true rfl) (Nat.le_of_ble_eq_true rfl) (Nat.le_of_ble_eq_true rfl) (Nat.le_of_ble_eq_true rfl) (Nat.le_of_ble_eq_true rfl)) (kr_V ?_) kn_V
  refine g_if_ne_f (tgt := 28) dX5_line_15 (by decide) (by decide) ?_
  refine g_throwS tw_X5_78_95_82 dX5_line_18 dX5_line_21 dX5_line_22 dX5_line_24 dX5_line_27 (fun _ h => nomatch h) (Nat.le_of_ble_eq_true rfl) (Nat.le_of_ble_eq_true rfl) ?_ (Nat.le_of_ble_eq_true rfl) (Nat.le_of_ble_eq_true rfl)
  exact ⟨rfl, rfl⟩

set_option maxRecDepth 100000 in
theorem kt_line_c {G : Gx} {X : Nat → Prop} {w0 w : Wd} {S : KS} (hK : Kl G X w0 S w) {x : Int32} (h1 : inb x 0 99 = true) (h2 : S.pS S.oP < 8) : Ct G yX5_line kw_X5_line rm_X5_line [.ref (S.ad 0 0), .int x] w (PB (.int (nI (S.pS S.oP + 1))) (fun w' => Kl G X w0 ((S.spV (upd2 S.pV S.oP (S.pS S.oP) x)).spS (updN S.pS S.oP (S.pS S.oP + 1))) w')) := by
  have hi6 := hK.cl.oP
  have hi7 : S.oP < S.nn 7 := Nat.lt_of_lt_of_le hi6 hK.cl.c7
  refine ct_intro RX5 "line" (by decide +kernel) rfl rfl rfl (Nat.le_of_ble_eq_true rfl) [some (.ref (S.ad 0 0)), some (.int x)] rfl (fun C => ?_)
  refine g_iload1 dX5_line_0 ?_
  refine g_iconst (v := 0) dX5_line_1 (by decide) ?_
  refine g_bipush (v := 99) dX5_line_2 (by decide) ?_
  refine g_callS3 (ct_dr_ok h1) md_X5_demandRange dX5_line_4 ml_X5_71 st_X5_demandRange (RmOk.of (Nat.le_of_ble_eq_true rfl) (Nat.le_of_ble_eq_true rfl) (Nat.le_of_ble_eq_true rfl) (Nat.le_of_ble_eq_true rfl) (Nat.le_of_ble_eq_true rfl)) (kr_U ?_) kx_U
  refine g_aload0 dX5_line_7 ?_
  refine g_getf kc6 dX5_line_8 fl_X5_38 (by decide) hK.g0 rfl ?_
  refine g_iload1 dX5_line_11 ?_
  refine g_callVN1 kc3 (ct_put_ok (hK.g6 hi6) (hK.g7 hi7) h2 (hK.b6 hi6) (hK.b7 hi7)) md_X2_put dX5_line_12 ml_X5_91 im_X2_put se_X2_put (hK.g6 hi6) (RmOk.of (Nat.le_of_ble_eq_true rfl) (Nat.le_of_ble_eq_true rfl) (Nat.le_of_ble_eq_true rfl) (Nat.le_of_ble_eq_true rfl) (Nat.le_of_ble_eq_true rfl)) (kr_B (fun w1 hw1 => ?_)) kn_B
  subst hw1
  have hK1 := (hK.pPV (i := S.oP) hi7 (S.pS S.oP) x).pPS (i := S.oP) hi6 (S.pS S.oP + 1)
  have hg6 := hK1.g6 (i := S.oP) hi6
  refine g_if_ne_t (tgt := 28) dX5_line_15 (by decide) (by decide) ?_
  refine g_aload0 dX5_line_28 ?_
  refine g_getf kc6 dX5_line_29 fl_X5_38 (by decide) hK1.g0 rfl ?_
  refine g_getf kc3 dX5_line_32 fl_X5_97 (by decide) hg6 rfl ?_
  refine g_iret dX5_line_35 ?_ (Nat.le_of_ble_eq_true rfl) (Nat.le_of_ble_eq_true rfl)
  exact ⟨congrArg (fun z => (Sum.inl (some (.int (nI z))) : RV)) (updN_s S.pS S.oP (S.pS S.oP + 1)), hK1⟩

abbrev rm_X5_closePage : Room := { frames := 7, cells := 3, slots := 211, locals := 191 }

def cpT (S : KS) : KS := ((((((S.sln (updN S.ln (S.oR + 4) (S.ln (S.oR + 4) + 1))).snn (updN (updN S.nn 7 (S.nn 7 + 1)) 6 (S.nn 6 + 1))).spV (updF S.pV (S.nn 7) (fun _ => 0))).spS (updN S.pS (S.nn 6) 0)).spC (upd S.pC (S.nn 6) 1)).soP (S.nn 6))

set_option maxRecDepth 100000 in
theorem kt_closePage {G : Gx} {X : Nat → Prop} {w0 w : Wd} {S : KS} (hK : Kl G X w0 S w) (hoP : S.oP = S.rF S.oR + S.ln (S.oR + 4)) (h67 : S.nn 6 = S.nn 7) (hm : S.ln (S.oR + 4) ≤ 120) : Ct G yX5_closePage kw_X5_closePage rm_X5_closePage [.ref (S.ad 0 0)] w (PN (KQ G X w0 S (cpT S))) := by
  have hr := hK.cl.oR
  have hr3 : S.oR + 4 < S.nn 3 := by have := hK.u3; omega
  refine ct_intro RX5 "closePage" (by decide +kernel) rfl rfl rfl (Nat.le_of_ble_eq_true rfl) [some (.ref (S.ad 0 0))] rfl (fun C => ?_)
  refine g_aload0 dX5_closePage_0 ?_
  refine g_getf kc6 dX5_closePage_1 fl_X5_31 (by decide) hK.g0 rfl ?_
  refine g_getf kc5 dX5_closePage_4 fl_X5_103 (by decide) (hK.g5 hr) rfl ?_
  refine g_aload0 dX5_closePage_7 ?_
  refine g_getf kc6 dX5_closePage_8 fl_X5_38 (by decide) hK.g0 rfl ?_
  refine g_callV1 kc0 (hK.ctAddP (l := S.oR) (nl := 200) hr3 hm (by show S.ad 6 S.oP = S.ad 6 (S.rF S.oR + S.ln (S.oR + 4)); rw [← hoP]) (by show S.rF S.oR + S.ln (S.oR + 4) < S.nn 6; rw [← hoP]; exact hK.cl.oP) (hK.gsl hr3 hm)) md_Jx4a65c_add_9ea2d dX5_closePage_11 ml_X5_61 im_Jx4a65c_add_9ea2d se_Jx4a65c_add_9ea2d (hK.g3 hr3) (RmOk.of (Nat.le_of_ble_eq_true rfl) (Nat.le_of_ble_eq_true rfl) (Nat.le_of_ble_eq_true rfl) (Nat.le_of_ble_eq_true rfl) (Nat.le_of_ble_eq_true rfl)) (kr_B (fun w1 hw1 => ?_)) kx_B
  obtain ⟨dd, cap, hK1, -⟩ := hw1
  refine g_pop dX5_closePage_14 rfl ?_
  refine g_aload0 dX5_closePage_15 ?_
  refine g_new (fs := [.null, .int 0, .int 0]) kc3 dX5_closePage_16 cl_X5_35 ins_X2 ini_X2 (by intro j hj; rcases (show j = 0 ∨ j = 1 ∨ j = 2 by omega) with rfl | rfl | rfl <;> rfl) (Nat.le_of_ble_eq_true rfl) (Nat.le_of_ble_eq_true rfl) (fun q qn qb => ?_)
  refine g_dup dX5_closePage_19 rfl ?_
  refine g_callIN0 (ct_X2_init (up_s _ _ _) qb) md_X2_init dX5_closePage_20 ml_X5_37 rfl im_X2_init (RmOk.of (Nat.le_of_ble_eq_true rfl) (Nat.le_of_ble_eq_true rfl) (Nat.le_of_ble_eq_true rfl) (Nat.le_of_ble_eq_true rfl) (Nat.le_of_ble_eq_true rfl)) (kr_N (fun w1 hw1 => ?_)) kn_N
  obtain ⟨v, hv, hvb, hw1⟩ := hw1
  have hqv : q ≠ v := fun e => by rw [← e, up_s] at hv; cases hv
  rw [up_fix hqv] at hw1
  subst hw1
  rw [up_n (fun e => hqv e.symm)] at hv
  have hK2 := hK1.newPage (p := q) (v := v) qn qb hv hvb hqv h67
  have h6 : ((S.app (S.oR + 4) dd cap).pg q v).ad 6 (S.nn 6) = q := ad2_s _ _ _ _
  have hg := hK2.g0
  have hlt : S.nn 6 < ((S.app (S.oR + 4) dd cap).pg q v).nn 6 := by
    show S.nn 6 < updN (updN S.nn 7 (S.nn 7 + 1)) 6 (S.nn 6 + 1) 6
    rw [updN_s]; omega
  have hK3 := hK2.pOP (r := S.nn 6) hlt
  refine g_putf (fs' := (kp (((S.app (S.oR + 4) dd cap).pg q v).soP (S.nn 6)))) kc6 dX5_closePage_23 fl_X5_38 (by decide) rfl hg hK2.b0 rfl rfl (Nat.le_of_ble_eq_true rfl) (kp_oP h6) ?_
  refine g_vret dX5_closePage_26 ?_ (Nat.le_of_ble_eq_true rfl) (Nat.le_of_ble_eq_true rfl)
  exact ⟨rfl, _, hK3, rfl, rfl⟩

abbrev rm_X5_feed : Room := { frames := 8, cells := 4, slots := 220, locals := 211 }

set_option maxRecDepth 100000 in
theorem kt_feed_a {G : Gx} {X : Nat → Prop} {w0 w : Wd} {S : KS} (hK : Kl G X w0 S w) (h : ¬ S.kept + nI (S.ln (S.oR + 4)) + 1 ≤ 120) : Ct G yX5_feed kw_X5_feed rm_X5_feed [.ref (S.ad 0 0)] w (PX "java/lang/IllegalStateException" w) := by
  have hr := hK.cl.oR
  have hr3 : S.oR + 4 < S.nn 3 := by have := hK.u3; omega
  refine ct_intro RX5 "feed" (by decide +kernel) rfl rfl rfl (Nat.le_of_ble_eq_true rfl) [some (.ref (S.ad 0 0))] rfl (fun C => ?_)
  refine g_aload0 dX5_feed_0 ?_
  refine g_getf kc6 dX5_feed_1 fl_X5_100 (by decide) hK.g0 rfl ?_
  refine g_aload0 dX5_feed_4 ?_
  refine g_getf kc6 dX5_feed_5 fl_X5_31 (by decide) hK.g0 rfl ?_
  refine g_getf kc5 dX5_feed_8 fl_X5_103 (by decide) (hK.g5 hr) rfl ?_
  refine g_callV0 kc0 (hK.ctSize hr3) md_Jx4a65c_size_8abf5 dX5_feed_11 ml_X5_85 im_Jx4a65c_size_8abf5 se_Jx4a65c_size_8abf5 (hK.g3 hr3) (RmOk.of (Nat.le_of_ble_eq_true rfl) (Nat.le_of_ble_eq_true rfl) (Nat.le_of_ble_eq_true rfl) (Nat.le_of_ble_eq_true rfl) (Nat.le_of_ble_eq_true rfl)) (kr_V ?_) kx_V
  refine g_iadd dX5_feed_14 ?_
  refine g_iconst (v := 1) dX5_feed_15 (by decide) ?_
  refine g_iadd dX5_feed_16 ?_
  refine g_bipush (v := 120) dX5_feed_17 (by decide) ?_
  refine g_icmp_le_f (tgt := 32) dX5_feed_19 (by decide) h ?_
  refine g_throwS tw_X5_78_106_82 dX5_feed_22 dX5_feed_25 dX5_feed_26 dX5_feed_28 dX5_feed_31 (fun _ h => nomatch h) (Nat.le_of_ble_eq_true rfl) (Nat.le_of_ble_eq_true rfl) ?_ (Nat.le_of_ble_eq_true rfl) (Nat.le_of_ble_eq_true rfl)
  exact ⟨rfl, rfl⟩

set_option maxRecDepth 100000 in
theorem kt_feed_b {G : Gx} {X : Nat → Prop} {w0 w : Wd} {S : KS} (hK : Kl G X w0 S w) (h : S.kept + nI (S.ln (S.oR + 4)) + 1 ≤ 120) (hoP : S.oP = S.rF S.oR + S.ln (S.oR + 4)) (h67 : S.nn 6 = S.nn 7) (hm : S.ln (S.oR + 4) ≤ 120) : Ct G yX5_feed kw_X5_feed rm_X5_feed [.ref (S.ad 0 0)] w (PB (.int (nI (S.ln (S.oR + 4) + 1))) (KQ G X w0 S (cpT S))) := by
  have hr := hK.cl.oR
  have hr3 : S.oR + 4 < S.nn 3 := by have := hK.u3; omega
  refine ct_intro RX5 "feed" (by decide +kernel) rfl rfl rfl (Nat.le_of_ble_eq_true rfl) [some (.ref (S.ad 0 0))] rfl (fun C => ?_)
  refine g_aload0 dX5_feed_0 ?_
  refine g_getf kc6 dX5_feed_1 fl_X5_100 (by decide) hK.g0 rfl ?_
  refine g_aload0 dX5_feed_4 ?_
  refine g_getf kc6 dX5_feed_5 fl_X5_31 (by decide) hK.g0 rfl ?_
  refine g_getf kc5 dX5_feed_8 fl_X5_103 (by decide) (hK.g5 hr) rfl ?_
  refine g_callV0 kc0 (hK.ctSize hr3) md_Jx4a65c_size_8abf5 dX5_feed_11 ml_X5_85 im_Jx4a65c_size_8abf5 se_Jx4a65c_size_8abf5 (hK.g3 hr3) (RmOk.of (Nat.le_of_ble_eq_true rfl) (Nat.le_of_ble_eq_true rfl) (Nat.le_of_ble_eq_true rfl) (Nat.le_of_ble_eq_true rfl) (Nat.le_of_ble_eq_true rfl)) (kr_V ?_) kx_V
  refine g_iadd dX5_feed_14 ?_
  refine g_iconst (v := 1) dX5_feed_15 (by decide) ?_
  refine g_iadd dX5_feed_16 ?_
  refine g_bipush (v := 120) dX5_feed_17 (by decide) ?_
  refine g_icmp_le_t (tgt := 32) dX5_feed_19 (by decide) h ?_
  refine g_aload0 dX5_feed_32 ?_
  refine g_callV0 kc6 (kt_closePage hK hoP h67 hm) md_X5_closePage dX5_feed_33 ml_X5_108 im_X5_closePage se_X5_closePage hK.g0 (RmOk.of (Nat.le_of_ble_eq_true rfl) (Nat.le_of_ble_eq_true rfl) (Nat.le_of_ble_eq_true rfl) (Nat.le_of_ble_eq_true rfl) (Nat.le_of_ble_eq_true rfl)) (kr_N (fun w1 hw1 => ?_)) kx_N
  obtain ⟨S1, hK1, hv1, ha1⟩ := hw1
  have hg := hK1.g0
  rw [ha1] at hg
  have hr1 := hK1.cl.oR
  have hr4 : S1.oR + 4 < S1.nn 3 := by have := hK1.u3; omega
  have e1 : S1.oR = S.oR := (congrArg KS.oR hv1 : S1.v.oR = (cpT S).v.oR)
  have e2 : S1.ln = updN S.ln (S.oR + 4) (S.ln (S.oR + 4) + 1) := (congrArg KS.ln hv1 : S1.v.ln = (cpT S).v.ln)
  refine g_aload0 dX5_feed_36 ?_
  refine g_getf kc6 dX5_feed_37 fl_X5_31 (by decide) hg rfl ?_
  refine g_getf kc5 dX5_feed_40 fl_X5_103 (by decide) (hK1.g5 hr1) rfl ?_
  refine g_callV0 kc0 (hK1.ctSize hr4) md_Jx4a65c_size_8abf5 dX5_feed_43 ml_X5_85 im_Jx4a65c_size_8abf5 se_Jx4a65c_size_8abf5 (hK1.g3 hr4) (RmOk.of (Nat.le_of_ble_eq_true rfl) (Nat.le_of_ble_eq_true rfl) (Nat.le_of_ble_eq_true rfl) (Nat.le_of_ble_eq_true rfl) (Nat.le_of_ble_eq_true rfl)) (kr_V ?_) kx_V
  refine g_iret dX5_feed_46 ?_ (Nat.le_of_ble_eq_true rfl) (Nat.le_of_ble_eq_true rfl)
  exact ⟨by rw [e1, e2, updN_s], S1, hK1, hv1, ha1⟩

abbrev rm_X5_documents : Room := { frames := 1, cells := 0, slots := 0, locals := 20 }

set_option maxRecDepth 100000 in
theorem kt_documents {G : Gx} {X : Nat → Prop} {w0 w : Wd} {S : KS} (hK : Kl G X w0 S w) : Ct G yX5_documents kw_X5_documents rm_X5_documents [.ref (S.ad 0 0)] w (PV (.int (nI (S.ln 2))) w) := by
  have hr3 : 2 < S.nn 3 := by have := hK.u3; omega
  refine ct_intro RX5 "documents" (by decide +kernel) rfl rfl rfl (Nat.le_of_ble_eq_true rfl) [some (.ref (S.ad 0 0))] rfl (fun C => ?_)
  refine g_aload0 dX5_documents_0 ?_
  refine g_getf kc6 dX5_documents_1 fl_X5_42 (by decide) hK.g0 rfl ?_
  refine g_callV0 kc0 (hK.ctSize hr3) md_Jx4a65c_size_8abf5 dX5_documents_4 ml_X5_85 im_Jx4a65c_size_8abf5 se_Jx4a65c_size_8abf5 (hK.g3 hr3) (RmOk.of (Nat.le_of_ble_eq_true rfl) (Nat.le_of_ble_eq_true rfl) (Nat.le_of_ble_eq_true rfl) (Nat.le_of_ble_eq_true rfl) (Nat.le_of_ble_eq_true rfl)) (kr_V ?_) kx_V
  refine g_iret dX5_documents_7 ?_ (Nat.le_of_ble_eq_true rfl) (Nat.le_of_ble_eq_true rfl)
  exact ⟨rfl, rfl⟩

abbrev rm_X5_pages : Room := { frames := 7, cells := 2, slots := 12, locals := 103 }

set_option maxRecDepth 100000 in
theorem kt_pages_a {G : Gx} {X : Nat → Prop} {w0 w : Wd} {S : KS} (hK : Kl G X w0 S w) {x : Int32} (h : inb x 0 (nI (S.ln 1) - 1) = false) : Ct G yX5_pages kw_X5_pages rm_X5_pages [.ref (S.ad 0 0), .int x] w (PX "java/lang/IndexOutOfBoundsException" w) := by
  refine ct_intro RX5 "pages" (by decide +kernel) rfl rfl rfl (Nat.le_of_ble_eq_true rfl) [some (.ref (S.ad 0 0)), some (.int x)] rfl (fun C => ?_)
  refine g_aload0 dX5_pages_0 ?_
  refine g_iload1 dX5_pages_1 ?_
  refine g_callV1 kc6 (ct_runAt_no hK h) md_X5_runAt dX5_pages_2 ml_X5_122 im_X5_runAt se_X5_runAt hK.g0 (RmOk.of (Nat.le_of_ble_eq_true rfl) (Nat.le_of_ble_eq_true rfl) (Nat.le_of_ble_eq_true rfl) (Nat.le_of_ble_eq_true rfl) (Nat.le_of_ble_eq_true rfl)) kr_X (kx_X ?_)
  refine gx_out (fun _ h => nomatch h) ?_ (Nat.le_of_ble_eq_true rfl) (Nat.le_of_ble_eq_true rfl)
  exact ⟨rfl, rfl⟩

set_option maxRecDepth 100000 in
theorem kt_pages_b {G : Gx} {X : Nat → Prop} {w0 w : Wd} {S : KS} (hK : Kl G X w0 S w) {j : Nat} (hj : j < S.ln 1) : Ct G yX5_pages kw_X5_pages rm_X5_pages [.ref (S.ad 0 0), .int (nI j)] w (PV (.int (nI (S.ln (j + 4)))) w) := by
  have hr1 : 1 < S.nn 3 := by have := hK.u3; omega
  have hr : j < S.nn 5 := hK.cl.el 1 j hr1 hj
  have hr3 : j + 4 < S.nn 3 := by have := hK.u3; omega
  refine ct_intro RX5 "pages" (by decide +kernel) rfl rfl rfl (Nat.le_of_ble_eq_true rfl) [some (.ref (S.ad 0 0)), some (.int (nI j))] rfl (fun C => ?_)
  refine g_aload0 dX5_pages_0 ?_
  refine g_iload1 dX5_pages_1 ?_
  refine g_callV1 kc6 (ct_runAt_ok hK hj) md_X5_runAt dX5_pages_2 ml_X5_122 im_X5_runAt se_X5_runAt hK.g0 (RmOk.of (Nat.le_of_ble_eq_true rfl) (Nat.le_of_ble_eq_true rfl) (Nat.le_of_ble_eq_true rfl) (Nat.le_of_ble_eq_true rfl) (Nat.le_of_ble_eq_true rfl)) (kr_V ?_) kx_V
  refine g_getf kc5 dX5_pages_5 fl_X5_103 (by decide) (hK.g5 hr) rfl ?_
  refine g_callV0 kc0 (hK.ctSize hr3) md_Jx4a65c_size_8abf5 dX5_pages_8 ml_X5_85 im_Jx4a65c_size_8abf5 se_Jx4a65c_size_8abf5 (hK.g3 hr3) (RmOk.of (Nat.le_of_ble_eq_true rfl) (Nat.le_of_ble_eq_true rfl) (Nat.le_of_ble_eq_true rfl) (Nat.le_of_ble_eq_true rfl) (Nat.le_of_ble_eq_true rfl)) (kr_V ?_) kx_V
  refine g_iret dX5_pages_11 ?_ (Nat.le_of_ble_eq_true rfl) (Nat.le_of_ble_eq_true rfl)
  exact ⟨rfl, rfl⟩

abbrev rm_X5_copies : Room := { frames := 8, cells := 2, slots := 12, locals := 124 }

set_option maxRecDepth 100000 in
theorem kt_copies_a {G : Gx} {X : Nat → Prop} {w0 w : Wd} {S : KS} (hK : Kl G X w0 S w) {x : Int32} {y : Int32} (h : inb x 0 (nI (S.ln 1) - 1) = false) : Ct G yX5_copies kw_X5_copies rm_X5_copies [.ref (S.ad 0 0), .int x, .int y] w (PX "java/lang/IndexOutOfBoundsException" w) := by
  refine ct_intro RX5 "copies" (by decide +kernel) rfl rfl rfl (Nat.le_of_ble_eq_true rfl) [some (.ref (S.ad 0 0)), some (.int x), some (.int y)] rfl (fun C => ?_)
  refine g_aload0 dX5_copies_0 ?_
  refine g_iload1 dX5_copies_1 ?_
  refine g_callV1 kc6 (ct_runAt_no hK h) md_X5_runAt dX5_copies_2 ml_X5_122 im_X5_runAt se_X5_runAt hK.g0 (RmOk.of (Nat.le_of_ble_eq_true rfl) (Nat.le_of_ble_eq_true rfl) (Nat.le_of_ble_eq_true rfl) (Nat.le_of_ble_eq_true rfl) (Nat.le_of_ble_eq_true rfl)) kr_X (kx_X ?_)
  refine gx_out (fun _ h => nomatch h) ?_ (Nat.le_of_ble_eq_true rfl) (Nat.le_of_ble_eq_true rfl)
  exact ⟨rfl, rfl⟩

set_option maxRecDepth 100000 in
theorem kt_copies_b {G : Gx} {X : Nat → Prop} {w0 w : Wd} {S : KS} (hK : Kl G X w0 S w) {j : Nat} (hj : j < S.ln 1) {y : Int32} (h : inb y 0 (nI (S.ln (j + 4)) - 1) = false) : Ct G yX5_copies kw_X5_copies rm_X5_copies [.ref (S.ad 0 0), .int (nI j), .int y] w (PX "java/lang/IndexOutOfBoundsException" w) := by
  have hr1 : 1 < S.nn 3 := by have := hK.u3; omega
  have hr : j < S.nn 5 := hK.cl.el 1 j hr1 hj
  have hr3 : j + 4 < S.nn 3 := by have := hK.u3; omega
  refine ct_intro RX5 "copies" (by decide +kernel) rfl rfl rfl (Nat.le_of_ble_eq_true rfl) [some (.ref (S.ad 0 0)), some (.int (nI j)), some (.int y)] rfl (fun C => ?_)
  refine g_aload0 dX5_copies_0 ?_
  refine g_iload1 dX5_copies_1 ?_
  refine g_callV1 kc6 (ct_runAt_ok hK hj) md_X5_runAt dX5_copies_2 ml_X5_122 im_X5_runAt se_X5_runAt hK.g0 (RmOk.of (Nat.le_of_ble_eq_true rfl) (Nat.le_of_ble_eq_true rfl) (Nat.le_of_ble_eq_true rfl) (Nat.le_of_ble_eq_true rfl) (Nat.le_of_ble_eq_true rfl)) (kr_V ?_) kx_V
  refine g_iload2 dX5_copies_5 ?_
  refine g_callS2 (ct_pageAt_no hK hr h) md_X5_pageAt dX5_copies_6 ml_X5_141 st_X5_pageAt (RmOk.of (Nat.le_of_ble_eq_true rfl) (Nat.le_of_ble_eq_true rfl) (Nat.le_of_ble_eq_true rfl) (Nat.le_of_ble_eq_true rfl) (Nat.le_of_ble_eq_true rfl)) kr_X (kx_X ?_)
  refine gx_out (fun _ h => nomatch h) ?_ (Nat.le_of_ble_eq_true rfl) (Nat.le_of_ble_eq_true rfl)
  exact ⟨rfl, rfl⟩

set_option maxRecDepth 100000 in
theorem kt_copies_c {G : Gx} {X : Nat → Prop} {w0 w : Wd} {S : KS} (hK : Kl G X w0 S w) {j k : Nat} (hj : j < S.ln 1) (hk : k < S.ln (j + 4)) : Ct G yX5_copies kw_X5_copies rm_X5_copies [.ref (S.ad 0 0), .int (nI j), .int (nI k)] w (PV (.int (S.pC (S.rF j + k))) w) := by
  have hr1 : 1 < S.nn 3 := by have := hK.u3; omega
  have hr : j < S.nn 5 := hK.cl.el 1 j hr1 hj
  have hr3 : j + 4 < S.nn 3 := by have := hK.u3; omega
  refine ct_intro RX5 "copies" (by decide +kernel) rfl rfl rfl (Nat.le_of_ble_eq_true rfl) [some (.ref (S.ad 0 0)), some (.int (nI j)), some (.int (nI k))] rfl (fun C => ?_)
  refine g_aload0 dX5_copies_0 ?_
  refine g_iload1 dX5_copies_1 ?_
  refine g_callV1 kc6 (ct_runAt_ok hK hj) md_X5_runAt dX5_copies_2 ml_X5_122 im_X5_runAt se_X5_runAt hK.g0 (RmOk.of (Nat.le_of_ble_eq_true rfl) (Nat.le_of_ble_eq_true rfl) (Nat.le_of_ble_eq_true rfl) (Nat.le_of_ble_eq_true rfl) (Nat.le_of_ble_eq_true rfl)) (kr_V ?_) kx_V
  refine g_iload2 dX5_copies_5 ?_
  refine g_callS2 (ct_pageAt_ok hK hr hk) md_X5_pageAt dX5_copies_6 ml_X5_141 st_X5_pageAt (RmOk.of (Nat.le_of_ble_eq_true rfl) (Nat.le_of_ble_eq_true rfl) (Nat.le_of_ble_eq_true rfl) (Nat.le_of_ble_eq_true rfl) (Nat.le_of_ble_eq_true rfl)) (kr_V ?_) kx_V
  refine g_getf kc3 dX5_copies_9 fl_X5_138 (by decide) (hK.g6 (hK.cl.el (j + 4) k hr3 hk)) rfl ?_
  refine g_iret dX5_copies_12 ?_ (Nat.le_of_ble_eq_true rfl) (Nat.le_of_ble_eq_true rfl)
  exact ⟨rfl, rfl⟩

abbrev rm_X5_account : Room := { frames := 7, cells := 2, slots := 12, locals := 103 }

set_option maxRecDepth 100000 in
theorem kt_account_a {G : Gx} {X : Nat → Prop} {w0 w : Wd} {S : KS} (hK : Kl G X w0 S w) {x : Int32} (h : inb x 0 (nI (S.ln 2) - 1) = false) : Ct G yX5_account kw_X5_account rm_X5_account [.ref (S.ad 0 0), .int x] w (PX "java/lang/IndexOutOfBoundsException" w) := by
  refine ct_intro RX5 "account" (by decide +kernel) rfl rfl rfl (Nat.le_of_ble_eq_true rfl) [some (.ref (S.ad 0 0)), some (.int x)] rfl (fun C => ?_)
  refine g_aload0 dX5_account_0 ?_
  refine g_iload1 dX5_account_1 ?_
  refine g_callV1 kc6 (ct_docAt_no hK h) md_X5_documentAt dX5_account_2 ml_X5_145 im_X5_documentAt se_X5_documentAt hK.g0 (RmOk.of (Nat.le_of_ble_eq_true rfl) (Nat.le_of_ble_eq_true rfl) (Nat.le_of_ble_eq_true rfl) (Nat.le_of_ble_eq_true rfl) (Nat.le_of_ble_eq_true rfl)) kr_X (kx_X ?_)
  refine gx_out (fun _ h => nomatch h) ?_ (Nat.le_of_ble_eq_true rfl) (Nat.le_of_ble_eq_true rfl)
  exact ⟨rfl, rfl⟩

set_option maxRecDepth 100000 in
theorem kt_account_b {G : Gx} {X : Nat → Prop} {w0 w : Wd} {S : KS} (hK : Kl G X w0 S w) {j : Nat} (hj : j < S.ln 2) : Ct G yX5_account kw_X5_account rm_X5_account [.ref (S.ad 0 0), .int (nI j)] w (PV (.int (S.dI j 1)) w) := by
  have hr2 : 2 < S.nn 3 := by have := hK.u3; omega
  have hd : j < S.nn 8 := hK.cl.el 2 j hr2 hj
  refine ct_intro RX5 "account" (by decide +kernel) rfl rfl rfl (Nat.le_of_ble_eq_true rfl) [some (.ref (S.ad 0 0)), some (.int (nI j))] rfl (fun C => ?_)
  refine g_aload0 dX5_account_0 ?_
  refine g_iload1 dX5_account_1 ?_
  refine g_callV1 kc6 (ct_docAt_ok hK hj) md_X5_documentAt dX5_account_2 ml_X5_145 im_X5_documentAt se_X5_documentAt hK.g0 (RmOk.of (Nat.le_of_ble_eq_true rfl) (Nat.le_of_ble_eq_true rfl) (Nat.le_of_ble_eq_true rfl) (Nat.le_of_ble_eq_true rfl) (Nat.le_of_ble_eq_true rfl)) (kr_V ?_) kx_V
  refine g_getf kc1 dX5_account_5 fl_X5_155 (by decide) (hK.g8 hd) rfl ?_
  refine g_iret dX5_account_8 ?_ (Nat.le_of_ble_eq_true rfl) (Nat.le_of_ble_eq_true rfl)
  exact ⟨rfl, rfl⟩

abbrev rm_X5_kind : Room := { frames := 7, cells := 2, slots := 12, locals := 103 }

set_option maxRecDepth 100000 in
theorem kt_kind_a {G : Gx} {X : Nat → Prop} {w0 w : Wd} {S : KS} (hK : Kl G X w0 S w) {x : Int32} (h : inb x 0 (nI (S.ln 2) - 1) = false) : Ct G yX5_kind kw_X5_kind rm_X5_kind [.ref (S.ad 0 0), .int x] w (PX "java/lang/IndexOutOfBoundsException" w) := by
  refine ct_intro RX5 "kind" (by decide +kernel) rfl rfl rfl (Nat.le_of_ble_eq_true rfl) [some (.ref (S.ad 0 0)), some (.int x)] rfl (fun C => ?_)
  refine g_aload0 dX5_kind_0 ?_
  refine g_iload1 dX5_kind_1 ?_
  refine g_callV1 kc6 (ct_docAt_no hK h) md_X5_documentAt dX5_kind_2 ml_X5_145 im_X5_documentAt se_X5_documentAt hK.g0 (RmOk.of (Nat.le_of_ble_eq_true rfl) (Nat.le_of_ble_eq_true rfl) (Nat.le_of_ble_eq_true rfl) (Nat.le_of_ble_eq_true rfl) (Nat.le_of_ble_eq_true rfl)) kr_X (kx_X ?_)
  refine gx_out (fun _ h => nomatch h) ?_ (Nat.le_of_ble_eq_true rfl) (Nat.le_of_ble_eq_true rfl)
  exact ⟨rfl, rfl⟩

set_option maxRecDepth 100000 in
theorem kt_kind_b {G : Gx} {X : Nat → Prop} {w0 w : Wd} {S : KS} (hK : Kl G X w0 S w) {j : Nat} (hj : j < S.ln 2) : Ct G yX5_kind kw_X5_kind rm_X5_kind [.ref (S.ad 0 0), .int (nI j)] w (PV (.int (S.dI j 2)) w) := by
  have hr2 : 2 < S.nn 3 := by have := hK.u3; omega
  have hd : j < S.nn 8 := hK.cl.el 2 j hr2 hj
  refine ct_intro RX5 "kind" (by decide +kernel) rfl rfl rfl (Nat.le_of_ble_eq_true rfl) [some (.ref (S.ad 0 0)), some (.int (nI j))] rfl (fun C => ?_)
  refine g_aload0 dX5_kind_0 ?_
  refine g_iload1 dX5_kind_1 ?_
  refine g_callV1 kc6 (ct_docAt_ok hK hj) md_X5_documentAt dX5_kind_2 ml_X5_145 im_X5_documentAt se_X5_documentAt hK.g0 (RmOk.of (Nat.le_of_ble_eq_true rfl) (Nat.le_of_ble_eq_true rfl) (Nat.le_of_ble_eq_true rfl) (Nat.le_of_ble_eq_true rfl) (Nat.le_of_ble_eq_true rfl)) (kr_V ?_) kx_V
  refine g_getf kc1 dX5_kind_5 fl_X5_158 (by decide) (hK.g8 hd) rfl ?_
  refine g_iret dX5_kind_8 ?_ (Nat.le_of_ble_eq_true rfl) (Nat.le_of_ble_eq_true rfl)
  exact ⟨rfl, rfl⟩

abbrev rm_X5_length : Room := { frames := 7, cells := 2, slots := 12, locals := 103 }

set_option maxRecDepth 100000 in
theorem kt_length_a {G : Gx} {X : Nat → Prop} {w0 w : Wd} {S : KS} (hK : Kl G X w0 S w) {x : Int32} (h : inb x 0 (nI (S.ln 2) - 1) = false) : Ct G yX5_length kw_X5_length rm_X5_length [.ref (S.ad 0 0), .int x] w (PX "java/lang/IndexOutOfBoundsException" w) := by
  refine ct_intro RX5 "length" (by decide +kernel) rfl rfl rfl (Nat.le_of_ble_eq_true rfl) [some (.ref (S.ad 0 0)), some (.int x)] rfl (fun C => ?_)
  refine g_aload0 dX5_length_0 ?_
  refine g_iload1 dX5_length_1 ?_
  refine g_callV1 kc6 (ct_docAt_no hK h) md_X5_documentAt dX5_length_2 ml_X5_145 im_X5_documentAt se_X5_documentAt hK.g0 (RmOk.of (Nat.le_of_ble_eq_true rfl) (Nat.le_of_ble_eq_true rfl) (Nat.le_of_ble_eq_true rfl) (Nat.le_of_ble_eq_true rfl) (Nat.le_of_ble_eq_true rfl)) kr_X (kx_X ?_)
  refine gx_out (fun _ h => nomatch h) ?_ (Nat.le_of_ble_eq_true rfl) (Nat.le_of_ble_eq_true rfl)
  exact ⟨rfl, rfl⟩

set_option maxRecDepth 100000 in
theorem kt_length_b {G : Gx} {X : Nat → Prop} {w0 w : Wd} {S : KS} (hK : Kl G X w0 S w) {j : Nat} (hj : j < S.ln 2) : Ct G yX5_length kw_X5_length rm_X5_length [.ref (S.ad 0 0), .int (nI j)] w (PV (.int (S.dI j 3)) w) := by
  have hr2 : 2 < S.nn 3 := by have := hK.u3; omega
  have hd : j < S.nn 8 := hK.cl.el 2 j hr2 hj
  refine ct_intro RX5 "length" (by decide +kernel) rfl rfl rfl (Nat.le_of_ble_eq_true rfl) [some (.ref (S.ad 0 0)), some (.int (nI j))] rfl (fun C => ?_)
  refine g_aload0 dX5_length_0 ?_
  refine g_iload1 dX5_length_1 ?_
  refine g_callV1 kc6 (ct_docAt_ok hK hj) md_X5_documentAt dX5_length_2 ml_X5_145 im_X5_documentAt se_X5_documentAt hK.g0 (RmOk.of (Nat.le_of_ble_eq_true rfl) (Nat.le_of_ble_eq_true rfl) (Nat.le_of_ble_eq_true rfl) (Nat.le_of_ble_eq_true rfl) (Nat.le_of_ble_eq_true rfl)) (kr_V ?_) kx_V
  refine g_getf kc1 dX5_length_5 fl_X5_161 (by decide) (hK.g8 hd) rfl ?_
  refine g_iret dX5_length_8 ?_ (Nat.le_of_ble_eq_true rfl) (Nat.le_of_ble_eq_true rfl)
  exact ⟨rfl, rfl⟩

abbrev rm_X5_isThere : Room := { frames := 7, cells := 2, slots := 12, locals := 103 }

set_option maxRecDepth 100000 in
theorem kt_isThere_a {G : Gx} {X : Nat → Prop} {w0 w : Wd} {S : KS} (hK : Kl G X w0 S w) {x : Int32} (h : inb x 0 (nI (S.ln 2) - 1) = false) : Ct G yX5_isThere kw_X5_isThere rm_X5_isThere [.ref (S.ad 0 0), .int x] w (PX "java/lang/IndexOutOfBoundsException" w) := by
  refine ct_intro RX5 "isThere" (by decide +kernel) rfl rfl rfl (Nat.le_of_ble_eq_true rfl) [some (.ref (S.ad 0 0)), some (.int x)] rfl (fun C => ?_)
  refine g_aload0 dX5_isThere_0 ?_
  refine g_iload1 dX5_isThere_1 ?_
  refine g_callV1 kc6 (ct_docAt_no hK h) md_X5_documentAt dX5_isThere_2 ml_X5_145 im_X5_documentAt se_X5_documentAt hK.g0 (RmOk.of (Nat.le_of_ble_eq_true rfl) (Nat.le_of_ble_eq_true rfl) (Nat.le_of_ble_eq_true rfl) (Nat.le_of_ble_eq_true rfl) (Nat.le_of_ble_eq_true rfl)) kr_X (kx_X ?_)
  refine gx_out (fun _ h => nomatch h) ?_ (Nat.le_of_ble_eq_true rfl) (Nat.le_of_ble_eq_true rfl)
  exact ⟨rfl, rfl⟩

set_option maxRecDepth 100000 in
theorem kt_isThere_b {G : Gx} {X : Nat → Prop} {w0 w : Wd} {S : KS} (hK : Kl G X w0 S w) {j : Nat} (hj : j < S.ln 2) : Ct G yX5_isThere kw_X5_isThere rm_X5_isThere [.ref (S.ad 0 0), .int (nI j)] w (PV (.int (bI (decide (S.dI j 4 = 0)))) w) := by
  have hr2 : 2 < S.nn 3 := by have := hK.u3; omega
  have hd : j < S.nn 8 := hK.cl.el 2 j hr2 hj
  refine ct_intro RX5 "isThere" (by decide +kernel) rfl rfl rfl (Nat.le_of_ble_eq_true rfl) [some (.ref (S.ad 0 0)), some (.int (nI j))] rfl (fun C => ?_)
  refine g_aload0 dX5_isThere_0 ?_
  refine g_iload1 dX5_isThere_1 ?_
  refine g_callV1 kc6 (ct_docAt_ok hK hj) md_X5_documentAt dX5_isThere_2 ml_X5_145 im_X5_documentAt se_X5_documentAt hK.g0 (RmOk.of (Nat.le_of_ble_eq_true rfl) (Nat.le_of_ble_eq_true rfl) (Nat.le_of_ble_eq_true rfl) (Nat.le_of_ble_eq_true rfl) (Nat.le_of_ble_eq_true rfl)) (kr_V ?_) kx_V
  refine g_getf kc1 dX5_isThere_5 fl_X5_149 (by decide) (hK.g8 hd) rfl ?_
  refine g_if_ne (tgt := 15) dX5_isThere_8 (by decide) (fun h8 => ?_) (fun h8 => ?_)
  · skip
    refine g_iconst (v := 0) dX5_isThere_15 (by decide) ?_
    refine g_zret dX5_isThere_16 (by decide) ?_ (Nat.le_of_ble_eq_true rfl) (Nat.le_of_ble_eq_true rfl)
    first | exact ⟨by rw [decide_eq_true h8]; rfl, rfl⟩ | exact ⟨by rw [decide_eq_false h8]; rfl, rfl⟩
  · skip
    refine g_iconst (v := 1) dX5_isThere_11 (by decide) ?_
    refine g_goto (tgt := 16) dX5_isThere_12 (by decide) ?_
    refine g_zret dX5_isThere_16 (by decide) ?_ (Nat.le_of_ble_eq_true rfl) (Nat.le_of_ble_eq_true rfl)
    first | exact ⟨by rw [decide_eq_true h8]; rfl, rfl⟩ | exact ⟨by rw [decide_eq_false h8]; rfl, rfl⟩

abbrev rm_X5_view : Room := { frames := 7, cells := 10, slots := 60, locals := 104 }

set_option maxRecDepth 100000 in
theorem kt_view_a1 {G : Gx} {X : Nat → Prop} {w0 w : Wd} {S : KS} (hK : Kl G X w0 S w) {x : Int32} {f l b : Int32} (h : inb x 0 (nI (S.ln 3) - 1) = false) : Ct G yX5_view kw_X5_view rm_X5_view [.ref (S.ad 0 0), .int x, .int f, .int l, .int b] w (PX "java/lang/IllegalArgumentException" w) := by
  refine ct_intro RX5 "view" (by decide +kernel) rfl rfl rfl (Nat.le_of_ble_eq_true rfl) [some (.ref (S.ad 0 0)), some (.int x), some (.int f), some (.int l), some (.int b), none] rfl (fun C => ?_)
  refine g_aload0 dX5_view_0 ?_
  refine g_iload1 dX5_view_1 ?_
  refine g_callV1 kc6 (ct_rdrAt_no hK h) md_X5_readerAt dX5_view_2 ml_X5_164 im_X5_readerAt se_X5_readerAt hK.g0 (RmOk.of (Nat.le_of_ble_eq_true rfl) (Nat.le_of_ble_eq_true rfl) (Nat.le_of_ble_eq_true rfl) (Nat.le_of_ble_eq_true rfl) (Nat.le_of_ble_eq_true rfl)) kr_X (kx_X ?_)
  refine gx_out (fun _ h => nomatch h) ?_ (Nat.le_of_ble_eq_true rfl) (Nat.le_of_ble_eq_true rfl)
  exact ⟨rfl, rfl⟩

set_option maxRecDepth 100000 in
theorem kt_view_a2 {G : Gx} {X : Nat → Prop} {w0 w : Wd} {S : KS} (hK : Kl G X w0 S w) {j : Nat} (hj : j < S.ln 3) {f l b : Int32} (h1 : inb f 0 99 = false) : Ct G yX5_view kw_X5_view rm_X5_view [.ref (S.ad 0 0), .int (nI j), .int f, .int l, .int b] w (PX "java/lang/IllegalArgumentException" w) := by
  refine ct_intro RX5 "view" (by decide +kernel) rfl rfl rfl (Nat.le_of_ble_eq_true rfl) [some (.ref (S.ad 0 0)), some (.int (nI j)), some (.int f), some (.int l), some (.int b), none] rfl (fun C => ?_)
  refine g_aload0 dX5_view_0 ?_
  refine g_iload1 dX5_view_1 ?_
  refine g_callV1 kc6 (ct_rdrAt_ok hK hj) md_X5_readerAt dX5_view_2 ml_X5_164 im_X5_readerAt se_X5_readerAt hK.g0 (RmOk.of (Nat.le_of_ble_eq_true rfl) (Nat.le_of_ble_eq_true rfl) (Nat.le_of_ble_eq_true rfl) (Nat.le_of_ble_eq_true rfl) (Nat.le_of_ble_eq_true rfl)) (kr_V ?_) kx_V
  refine g_astore5 dX5_view_5 ?_
  refine g_iload2 dX5_view_7 ?_
  refine g_iconst (v := 0) dX5_view_8 (by decide) ?_
  refine g_bipush (v := 99) dX5_view_9 (by decide) ?_
  refine g_callS3 (ct_dr_no h1) md_X5_demandRange dX5_view_11 ml_X5_71 st_X5_demandRange (RmOk.of (Nat.le_of_ble_eq_true rfl) (Nat.le_of_ble_eq_true rfl) (Nat.le_of_ble_eq_true rfl) (Nat.le_of_ble_eq_true rfl) (Nat.le_of_ble_eq_true rfl)) kr_X (kx_X ?_)
  refine gx_out (fun _ h => nomatch h) ?_ (Nat.le_of_ble_eq_true rfl) (Nat.le_of_ble_eq_true rfl)
  exact ⟨rfl, rfl⟩

set_option maxRecDepth 100000 in
theorem kt_view_a3 {G : Gx} {X : Nat → Prop} {w0 w : Wd} {S : KS} (hK : Kl G X w0 S w) {j : Nat} (hj : j < S.ln 3) {f l b : Int32} (h1 : inb f 0 99 = true) (h2 : inb l f 99 = false) : Ct G yX5_view kw_X5_view rm_X5_view [.ref (S.ad 0 0), .int (nI j), .int f, .int l, .int b] w (PX "java/lang/IllegalArgumentException" w) := by
  refine ct_intro RX5 "view" (by decide +kernel) rfl rfl rfl (Nat.le_of_ble_eq_true rfl) [some (.ref (S.ad 0 0)), some (.int (nI j)), some (.int f), some (.int l), some (.int b), none] rfl (fun C => ?_)
  refine g_aload0 dX5_view_0 ?_
  refine g_iload1 dX5_view_1 ?_
  refine g_callV1 kc6 (ct_rdrAt_ok hK hj) md_X5_readerAt dX5_view_2 ml_X5_164 im_X5_readerAt se_X5_readerAt hK.g0 (RmOk.of (Nat.le_of_ble_eq_true rfl) (Nat.le_of_ble_eq_true rfl) (Nat.le_of_ble_eq_true rfl) (Nat.le_of_ble_eq_true rfl) (Nat.le_of_ble_eq_true rfl)) (kr_V ?_) kx_V
  refine g_astore5 dX5_view_5 ?_
  refine g_iload2 dX5_view_7 ?_
  refine g_iconst (v := 0) dX5_view_8 (by decide) ?_
  refine g_bipush (v := 99) dX5_view_9 (by decide) ?_
  refine g_callS3 (ct_dr_ok h1) md_X5_demandRange dX5_view_11 ml_X5_71 st_X5_demandRange (RmOk.of (Nat.le_of_ble_eq_true rfl) (Nat.le_of_ble_eq_true rfl) (Nat.le_of_ble_eq_true rfl) (Nat.le_of_ble_eq_true rfl) (Nat.le_of_ble_eq_true rfl)) (kr_U ?_) kx_U
  refine g_iload3 dX5_view_14 ?_
  refine g_iload2 dX5_view_15 ?_
  refine g_bipush (v := 99) dX5_view_16 (by decide) ?_
  refine g_callS3 (ct_dr_no h2) md_X5_demandRange dX5_view_18 ml_X5_71 st_X5_demandRange (RmOk.of (Nat.le_of_ble_eq_true rfl) (Nat.le_of_ble_eq_true rfl) (Nat.le_of_ble_eq_true rfl) (Nat.le_of_ble_eq_true rfl) (Nat.le_of_ble_eq_true rfl)) kr_X (kx_X ?_)
  refine gx_out (fun _ h => nomatch h) ?_ (Nat.le_of_ble_eq_true rfl) (Nat.le_of_ble_eq_true rfl)
  exact ⟨rfl, rfl⟩

set_option maxRecDepth 100000 in
theorem kt_view_a4 {G : Gx} {X : Nat → Prop} {w0 w : Wd} {S : KS} (hK : Kl G X w0 S w) {j : Nat} (hj : j < S.ln 3) {f l b : Int32} (h1 : inb f 0 99 = true) (h2 : inb l f 99 = true) (h3 : inb b (-1) 7 = false) : Ct G yX5_view kw_X5_view rm_X5_view [.ref (S.ad 0 0), .int (nI j), .int f, .int l, .int b] w (PX "java/lang/IllegalArgumentException" w) := by
  refine ct_intro RX5 "view" (by decide +kernel) rfl rfl rfl (Nat.le_of_ble_eq_true rfl) [some (.ref (S.ad 0 0)), some (.int (nI j)), some (.int f), some (.int l), some (.int b), none] rfl (fun C => ?_)
  refine g_aload0 dX5_view_0 ?_
  refine g_iload1 dX5_view_1 ?_
  refine g_callV1 kc6 (ct_rdrAt_ok hK hj) md_X5_readerAt dX5_view_2 ml_X5_164 im_X5_readerAt se_X5_readerAt hK.g0 (RmOk.of (Nat.le_of_ble_eq_true rfl) (Nat.le_of_ble_eq_true rfl) (Nat.le_of_ble_eq_true rfl) (Nat.le_of_ble_eq_true rfl) (Nat.le_of_ble_eq_true rfl)) (kr_V ?_) kx_V
  refine g_astore5 dX5_view_5 ?_
  refine g_iload2 dX5_view_7 ?_
  refine g_iconst (v := 0) dX5_view_8 (by decide) ?_
  refine g_bipush (v := 99) dX5_view_9 (by decide) ?_
  refine g_callS3 (ct_dr_ok h1) md_X5_demandRange dX5_view_11 ml_X5_71 st_X5_demandRange (RmOk.of (Nat.le_of_ble_eq_true rfl) (Nat.le_of_ble_eq_true rfl) (Nat.le_of_ble_eq_true rfl) (Nat.le_of_ble_eq_true rfl) (Nat.le_of_ble_eq_true rfl)) (kr_U ?_) kx_U
  refine g_iload3 dX5_view_14 ?_
  refine g_iload2 dX5_view_15 ?_
  refine g_bipush (v := 99) dX5_view_16 (by decide) ?_
  refine g_callS3 (ct_dr_ok h2) md_X5_demandRange dX5_view_18 ml_X5_71 st_X5_demandRange (RmOk.of (Nat.le_of_ble_eq_true rfl) (Nat.le_of_ble_eq_true rfl) (Nat.le_of_ble_eq_true rfl) (Nat.le_of_ble_eq_true rfl) (Nat.le_of_ble_eq_true rfl)) (kr_U ?_) kx_U
  refine g_iload4 dX5_view_21 ?_
  refine g_iconst (v := (-1)) dX5_view_23 (by decide) ?_
  refine g_bipush (v := 7) dX5_view_24 (by decide) ?_
  refine g_callS3 (ct_dr_no h3) md_X5_demandRange dX5_view_26 ml_X5_71 st_X5_demandRange (RmOk.of (Nat.le_of_ble_eq_true rfl) (Nat.le_of_ble_eq_true rfl) (Nat.le_of_ble_eq_true rfl) (Nat.le_of_ble_eq_true rfl) (Nat.le_of_ble_eq_true rfl)) kr_X (kx_X ?_)
  refine gx_out (fun _ h => nomatch h) ?_ (Nat.le_of_ble_eq_true rfl) (Nat.le_of_ble_eq_true rfl)
  exact ⟨rfl, rfl⟩

theorem Kl.pRd {G : Gx} {X : Nat → Prop} {w0 w : Wd} {S : KS} (hK : Kl G X w0 S w) {i : Nat} (hi : i < S.nn 9) (f l b : Int32) : Kl G X w0 (S.srd (updF S.rd i (upd (upd (upd (S.rd i) 1 f) 2 l) 3 b))) (up w (S.ad 9 i) (eRd (S.rd i 0) f l b)) := by
  have h := hK.put (S.srd (updF S.rd i (upd (upd (upd (S.rd i) 1 f) 2 l) 3 b))) 9 i (lvK (by decide) (by decide) hi) rfl rfl rfl hK.cl (fun k1 i1 hl1 hn1 => match k1, hl1, hn1 with
    | 0, hl1, hn1 => ⟨rfl, rfl, rfl, rfl⟩
    | 1, hl1, hn1 => trivial
    | 2, hl1, hn1 => rfl
    | 3, hl1, hn1 => ⟨rfl, rfl, rfl⟩
    | 4, hl1, hn1 => ⟨rfl, rfl, fun _ _ => rfl⟩
    | 5, hl1, hn1 => rfl
    | 6, hl1, hn1 => ⟨rfl, rfl⟩
    | 7, hl1, hn1 => rfl
    | 8, hl1, hn1 => ⟨rfl, rfl⟩
    | 9, hl1, hn1 => updF_n (hn1 rfl)
    | 10, hl1, hn1 => rfl
    | n + 11, hl1, hn1 => rfl)
  have e : kc G (S.srd (updF S.rd i (upd (upd (upd (S.rd i) 1 f) 2 l) 3 b))) 9 i = eRd (S.rd i 0) f l b := by
    show eRd (updF S.rd i (upd (upd (upd (S.rd i) 1 f) 2 l) 3 b) i 0) (updF S.rd i (upd (upd (upd (S.rd i) 1 f) 2 l) 3 b) i 1) (updF S.rd i (upd (upd (upd (S.rd i) 1 f) 2 l) 3 b) i 2) (updF S.rd i (upd (upd (upd (S.rd i) 1 f) 2 l) 3 b) i 3) = _
    rw [updF_s]; rfl
  rw [e] at h
  exact h
set_option maxRecDepth 100000 in
theorem kt_view_b {G : Gx} {X : Nat → Prop} {w0 w : Wd} {S : KS} (hK : Kl G X w0 S w) {j : Nat} (hj : j < S.ln 3) {f l b : Int32} (h1 : inb f 0 99 = true) (h2 : inb l f 99 = true) (h3 : inb b (-1) 7 = true) : Ct G yX5_view kw_X5_view rm_X5_view [.ref (S.ad 0 0), .int (nI j), .int f, .int l, .int b] w (PN (fun w' => Kl G X w0 (S.srd (updF S.rd j (upd (upd (upd (S.rd j) 1 f) 2 l) 3 b))) w')) := by
  have hr4 : 3 < S.nn 3 := by have := hK.u3; omega
  have hq : j < S.nn 9 := hK.cl.el 3 j hr4 hj
  refine ct_intro RX5 "view" (by decide +kernel) rfl rfl rfl (Nat.le_of_ble_eq_true rfl) [some (.ref (S.ad 0 0)), some (.int (nI j)), some (.int f), some (.int l), some (.int b), none] rfl (fun C => ?_)
  refine g_aload0 dX5_view_0 ?_
  refine g_iload1 dX5_view_1 ?_
  refine g_callV1 kc6 (ct_rdrAt_ok hK hj) md_X5_readerAt dX5_view_2 ml_X5_164 im_X5_readerAt se_X5_readerAt hK.g0 (RmOk.of (Nat.le_of_ble_eq_true rfl) (Nat.le_of_ble_eq_true rfl) (Nat.le_of_ble_eq_true rfl) (Nat.le_of_ble_eq_true rfl) (Nat.le_of_ble_eq_true rfl)) (kr_V ?_) kx_V
  refine g_astore5 dX5_view_5 ?_
  refine g_iload2 dX5_view_7 ?_
  refine g_iconst (v := 0) dX5_view_8 (by decide) ?_
  refine g_bipush (v := 99) dX5_view_9 (by decide) ?_
  refine g_callS3 (ct_dr_ok h1) md_X5_demandRange dX5_view_11 ml_X5_71 st_X5_demandRange (RmOk.of (Nat.le_of_ble_eq_true rfl) (Nat.le_of_ble_eq_true rfl) (Nat.le_of_ble_eq_true rfl) (Nat.le_of_ble_eq_true rfl) (Nat.le_of_ble_eq_true rfl)) (kr_U ?_) kx_U
  refine g_iload3 dX5_view_14 ?_
  refine g_iload2 dX5_view_15 ?_
  refine g_bipush (v := 99) dX5_view_16 (by decide) ?_
  refine g_callS3 (ct_dr_ok h2) md_X5_demandRange dX5_view_18 ml_X5_71 st_X5_demandRange (RmOk.of (Nat.le_of_ble_eq_true rfl) (Nat.le_of_ble_eq_true rfl) (Nat.le_of_ble_eq_true rfl) (Nat.le_of_ble_eq_true rfl) (Nat.le_of_ble_eq_true rfl)) (kr_U ?_) kx_U
  refine g_iload4 dX5_view_21 ?_
  refine g_iconst (v := (-1)) dX5_view_23 (by decide) ?_
  refine g_bipush (v := 7) dX5_view_24 (by decide) ?_
  refine g_callS3 (ct_dr_ok h3) md_X5_demandRange dX5_view_26 ml_X5_71 st_X5_demandRange (RmOk.of (Nat.le_of_ble_eq_true rfl) (Nat.le_of_ble_eq_true rfl) (Nat.le_of_ble_eq_true rfl) (Nat.le_of_ble_eq_true rfl) (Nat.le_of_ble_eq_true rfl)) (kr_U ?_) kx_U
  refine g_aload5 dX5_view_29 ?_
  refine g_iload2 dX5_view_31 ?_
  refine g_putf (fs' := [.int (S.rd j 0), .int f, .int (S.rd j 2), .int (S.rd j 3)]) kc4 dX5_view_32 fl_X5_202 (by decide) rfl (hK.g9 hq) (hK.b9 hq) rfl rfl (Nat.le_of_ble_eq_true rfl) rfl ?_
  refine g_aload5 dX5_view_35 ?_
  refine g_iload3 dX5_view_37 ?_
  refine g_putf (fs' := [.int (S.rd j 0), .int f, .int l, .int (S.rd j 3)]) kc4 dX5_view_38 fl_X5_205 (by decide) rfl (up_s _ _ _) (hK.b9 hq) rfl rfl (Nat.le_of_ble_eq_true rfl) rfl ?_
  refine g_aload5 dX5_view_41 ?_
  refine g_iload4 dX5_view_43 ?_
  refine g_putf (fs' := [.int (S.rd j 0), .int f, .int l, .int b]) kc4 dX5_view_45 fl_X5_195 (by decide) rfl (up_s _ _ _) (hK.b9 hq) rfl rfl (Nat.le_of_ble_eq_true rfl) rfl ?_
  refine g_vret dX5_view_48 ?_ (Nat.le_of_ble_eq_true rfl) (Nat.le_of_ble_eq_true rfl)
  rw [up_up, up_up]
  exact ⟨rfl, hK.pRd hq f l b⟩

abbrev rm_X5_span : Room := { frames := 7, cells := 10, slots := 60, locals := 104 }

set_option maxRecDepth 100000 in
theorem kt_span_a1 {G : Gx} {X : Nat → Prop} {w0 w : Wd} {S : KS} (hK : Kl G X w0 S w) {x y : Int32} (h : isK 4 x = false) : Ct G yX5_span kw_X5_span rm_X5_span [.ref (S.ad 0 0), .int x, .int y] w (PX "java/lang/IllegalArgumentException" w) := by
  refine ct_intro RX5 "span" (by decide +kernel) rfl rfl rfl (Nat.le_of_ble_eq_true rfl) [some (.ref (S.ad 0 0)), some (.int x), some (.int y), none] rfl (fun C => ?_)
  refine g_aload0 dX5_span_0 ?_
  refine g_iload1 dX5_span_1 ?_
  refine g_callV1 kc6 (ct_isKind hK) md_X5_isKind dX5_span_2 ml_X5_208 im_X5_isKind se_X5_isKind hK.g0 (RmOk.of (Nat.le_of_ble_eq_true rfl) (Nat.le_of_ble_eq_true rfl) (Nat.le_of_ble_eq_true rfl) (Nat.le_of_ble_eq_true rfl) (Nat.le_of_ble_eq_true rfl)) (kr_V ?_) kx_V
  refine g_if_ne_f (tgt := 18) dX5_span_5 (by decide) (by rw [h]; decide) ?_
  refine g_throwS tw_X5_211_213_215 dX5_span_8 dX5_span_11 dX5_span_12 dX5_span_14 dX5_span_17 (fun _ h => nomatch h) (Nat.le_of_ble_eq_true rfl) (Nat.le_of_ble_eq_true rfl) ?_ (Nat.le_of_ble_eq_true rfl) (Nat.le_of_ble_eq_true rfl)
  exact ⟨rfl, rfl⟩

set_option maxRecDepth 100000 in
theorem kt_span_a2 {G : Gx} {X : Nat → Prop} {w0 w : Wd} {S : KS} (hK : Kl G X w0 S w) {x y : Int32} (h : isK 4 x = true) (h2 : inb y 0 9999 = false) : Ct G yX5_span kw_X5_span rm_X5_span [.ref (S.ad 0 0), .int x, .int y] w (PX "java/lang/IllegalArgumentException" w) := by
  refine ct_intro RX5 "span" (by decide +kernel) rfl rfl rfl (Nat.le_of_ble_eq_true rfl) [some (.ref (S.ad 0 0)), some (.int x), some (.int y), none] rfl (fun C => ?_)
  refine g_aload0 dX5_span_0 ?_
  refine g_iload1 dX5_span_1 ?_
  refine g_callV1 kc6 (ct_isKind hK) md_X5_isKind dX5_span_2 ml_X5_208 im_X5_isKind se_X5_isKind hK.g0 (RmOk.of (Nat.le_of_ble_eq_true rfl) (Nat.le_of_ble_eq_true rfl) (Nat.le_of_ble_eq_true rfl) (Nat.le_of_ble_eq_true rfl) (Nat.le_of_ble_eq_true rfl)) (kr_V ?_) kx_V
  refine g_if_ne_t (tgt := 18) dX5_span_5 (by decide) (by rw [h]; decide) ?_
  refine g_iload2 dX5_span_18 ?_
  refine g_iconst (v := 0) dX5_span_19 (by decide) ?_
  refine g_sipush (v := 9999) dX5_span_20 (by decide) ?_
  refine g_callS3 (ct_dr_no h2) md_X5_demandRange dX5_span_23 ml_X5_71 st_X5_demandRange (RmOk.of (Nat.le_of_ble_eq_true rfl) (Nat.le_of_ble_eq_true rfl) (Nat.le_of_ble_eq_true rfl) (Nat.le_of_ble_eq_true rfl) (Nat.le_of_ble_eq_true rfl)) kr_X (kx_X ?_)
  refine gx_out (fun _ h => nomatch h) ?_ (Nat.le_of_ble_eq_true rfl) (Nat.le_of_ble_eq_true rfl)
  exact ⟨rfl, rfl⟩

set_option maxRecDepth 100000 in
theorem kt_span_b {G : Gx} {X : Nat → Prop} {w0 w : Wd} {S : KS} (hK : Kl G X w0 S w) {j : Nat} {y : Int32} (hj : j < 4) (h2 : inb y 0 9999 = true) : Ct G yX5_span kw_X5_span rm_X5_span [.ref (S.ad 0 0), .int (nI j), .int y] w (PB (.int (S.sp j)) (fun w' => Kl G X w0 (S.ssp (upd S.sp j y)) w')) := by
  refine ct_intro RX5 "span" (by decide +kernel) rfl rfl rfl (Nat.le_of_ble_eq_true rfl) [some (.ref (S.ad 0 0)), some (.int (nI j)), some (.int y), none] rfl (fun C => ?_)
  refine g_aload0 dX5_span_0 ?_
  refine g_iload1 dX5_span_1 ?_
  refine g_callV1 kc6 (ct_isKind hK) md_X5_isKind dX5_span_2 ml_X5_208 im_X5_isKind se_X5_isKind hK.g0 (RmOk.of (Nat.le_of_ble_eq_true rfl) (Nat.le_of_ble_eq_true rfl) (Nat.le_of_ble_eq_true rfl) (Nat.le_of_ble_eq_true rfl) (Nat.le_of_ble_eq_true rfl)) (kr_V ?_) kx_V
  refine g_if_ne_t (tgt := 18) dX5_span_5 (by decide) (by rw [isK_nI hj (by decide)]; decide) ?_
  refine g_iload2 dX5_span_18 ?_
  refine g_iconst (v := 0) dX5_span_19 (by decide) ?_
  refine g_sipush (v := 9999) dX5_span_20 (by decide) ?_
  refine g_callS3 (ct_dr_ok h2) md_X5_demandRange dX5_span_23 ml_X5_71 st_X5_demandRange (RmOk.of (Nat.le_of_ble_eq_true rfl) (Nat.le_of_ble_eq_true rfl) (Nat.le_of_ble_eq_true rfl) (Nat.le_of_ble_eq_true rfl) (Nat.le_of_ble_eq_true rfl)) (kr_U ?_) kx_U
  refine g_aload0 dX5_span_26 ?_
  refine g_getf kc6 dX5_span_27 fl_X5_48 (by decide) hK.g0 rfl ?_
  refine g_iload1 dX5_span_30 ?_
  refine g_iald dX5_span_31 hK.g10 (vp_in_nI hj (by decide)) ?_
  rw [nI_clamp (by omega)]
  refine g_istore3 dX5_span_32 ?_
  refine g_aload0 dX5_span_33 ?_
  refine g_getf kc6 dX5_span_34 fl_X5_48 (by decide) hK.g0 rfl ?_
  refine g_iload1 dX5_span_37 ?_
  refine g_iload2 dX5_span_38 ?_
  refine g_iast dX5_span_39 hK.g10 (hK.base 10 0 hK.l10) (vp_in_nI hj (by decide)) ?_
  rw [nI_clamp (by omega)]
  refine g_iload3 dX5_span_40 ?_
  refine g_iret dX5_span_41 ?_ (Nat.le_of_ble_eq_true rfl) (Nat.le_of_ble_eq_true rfl)
  exact ⟨rfl, hK.pSp j y⟩

abbrev rm_X5_hold : Room := { frames := 6, cells := 10, slots := 60, locals := 82 }

set_option maxRecDepth 100000 in
theorem kt_hold_a {G : Gx} {X : Nat → Prop} {w0 w : Wd} {S : KS} (hK : Kl G X w0 S w) {x : Int32} {y : Bool} (h : isK 100 x = false) : Ct G yX5_hold kw_X5_hold rm_X5_hold [.ref (S.ad 0 0), .int x, .int (bI y)] w (PX "java/lang/IllegalArgumentException" w) := by
  refine ct_intro RX5 "hold" (by decide +kernel) rfl rfl rfl (Nat.le_of_ble_eq_true rfl) [some (.ref (S.ad 0 0)), some (.int x), some (.int (bI y)), none] rfl (fun C => ?_)
  refine g_aload0 dX5_hold_0 ?_
  refine g_iload1 dX5_hold_1 ?_
  refine g_callV1 kc6 (ct_isAccount hK) md_X5_isAccount dX5_hold_2 ml_X5_216 im_X5_isAccount se_X5_isAccount hK.g0 (RmOk.of (Nat.le_of_ble_eq_true rfl) (Nat.le_of_ble_eq_true rfl) (Nat.le_of_ble_eq_true rfl) (Nat.le_of_ble_eq_true rfl) (Nat.le_of_ble_eq_true rfl)) (kr_V ?_) kx_V
  refine g_if_ne_f (tgt := 18) dX5_hold_5 (by decide) (by rw [h]; decide) ?_
  refine g_throwS tw_X5_211_219_215 dX5_hold_8 dX5_hold_11 dX5_hold_12 dX5_hold_14 dX5_hold_17 (fun _ h => nomatch h) (Nat.le_of_ble_eq_true rfl) (Nat.le_of_ble_eq_true rfl) ?_ (Nat.le_of_ble_eq_true rfl) (Nat.le_of_ble_eq_true rfl)
  exact ⟨rfl, rfl⟩

set_option maxRecDepth 100000 in
theorem kt_hold_b {G : Gx} {X : Nat → Prop} {w0 w : Wd} {S : KS} (hK : Kl G X w0 S w) {j : Nat} {y z : Bool} (hj : j < 100) (hz : S.he j = bI z) : Ct G yX5_hold kw_X5_hold rm_X5_hold [.ref (S.ad 0 0), .int (nI j), .int (bI y)] w (PB (.int (bI z)) (fun w' => Kl G X w0 (S.she (upd S.he j (bI y))) w')) := by
  refine ct_intro RX5 "hold" (by decide +kernel) rfl rfl rfl (Nat.le_of_ble_eq_true rfl) [some (.ref (S.ad 0 0)), some (.int (nI j)), some (.int (bI y)), none] rfl (fun C => ?_)
  refine g_aload0 dX5_hold_0 ?_
  refine g_iload1 dX5_hold_1 ?_
  refine g_callV1 kc6 (ct_isAccount hK) md_X5_isAccount dX5_hold_2 ml_X5_216 im_X5_isAccount se_X5_isAccount hK.g0 (RmOk.of (Nat.le_of_ble_eq_true rfl) (Nat.le_of_ble_eq_true rfl) (Nat.le_of_ble_eq_true rfl) (Nat.le_of_ble_eq_true rfl) (Nat.le_of_ble_eq_true rfl)) (kr_V ?_) kx_V
  refine g_if_ne_t (tgt := 18) dX5_hold_5 (by decide) (by rw [isK_nI hj (by decide)]; decide) ?_
  refine g_aload0 dX5_hold_18 ?_
  refine g_getf kc6 dX5_hold_19 fl_X5_52 (by decide) hK.g0 rfl ?_
  refine g_iload1 dX5_hold_22 ?_
  refine g_zald dX5_hold_23 hK.g11 (vp_in_nI hj (by decide)) ?_
  rw [nI_clamp (by omega), hz]
  refine g_istore3 dX5_hold_24 ?_
  refine g_aload0 dX5_hold_25 ?_
  refine g_getf kc6 dX5_hold_26 fl_X5_52 (by decide) hK.g0 rfl ?_
  refine g_iload1 dX5_hold_29 ?_
  refine g_iload2 dX5_hold_30 ?_
  refine g_zast dX5_hold_31 hK.g11 (hK.base 11 0 hK.l11) (vp_in_nI hj (by decide)) (bI_nar _) ?_
  rw [nI_clamp (by omega)]
  refine g_iload3 dX5_hold_32 ?_
  refine g_zret dX5_hold_33 (bI_nar _) ?_ (Nat.le_of_ble_eq_true rfl) (Nat.le_of_ble_eq_true rfl)
  exact ⟨rfl, hK.pHe j (bI y)⟩

