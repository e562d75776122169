/-! end -/
theorem keT_ln1 {S : KS} (h : 1 ≠ S.nn 3) : (keT S).ln 1 = S.ln 1 + 1 := by
  show updN (keB S).ln ((keB S).nn 3) 0 1 = S.ln 1 + 1
  rw [keB_nn S (by decide), updN_n h]
  exact (pdL_ln _ _ _ (keA S) (by decide) _).trans (show updN S.ln 1 (S.ln 1 + 1) 1 = S.ln 1 + 1 from updN_s _ _ _)
theorem nI_m1 (n : Nat) : nI (n + 1) - 1 = nI n := nI_pred n

abbrev rm_X5_end : Room := { frames := 9, cells := 300, slots := 2700, locals := 237 }

set_option maxRecDepth 100000 in
theorem kt_end_a0 {G : Gx} {X : Nat → Prop} {w0 w : Wd} {S : KS} (hK : Kl G X w0 S w) (hE : decide (nI (S.pS S.oP) = 0) = true) (h0 : S.ln (S.oR + 4) = 0) : Ct G yX5_end kw_X5_end rm_X5_end [.ref (S.ad 0 0)] w (PX "java/lang/IllegalStateException" w) := by
  have hr := hK.cl.oR
  have hr3 : S.oR + 4 < S.nn 3 := by have := hK.u3; omega
  have hr1 : 1 < S.nn 3 := by have := hK.u3; omega
  have hi6 := hK.cl.oP
  have hln : S.ln (S.oR + 4) ≤ 200 := by have := hK.cl.cp _ hr3; omega
  have hln1 : S.ln 1 ≤ 200 := by have := hK.cl.cp _ hr1; omega
  refine ct_intro RX5 "end" (by decide +kernel) rfl rfl rfl (Nat.le_of_ble_eq_true rfl) [some (.ref (S.ad 0 0)), none] rfl (fun C => ?_)
  refine g_aload0 dX5_end_0 ?_
  refine g_getf kc6 dX5_end_1 fl_X5_31 (by decide) hK.g0 rfl ?_
  refine g_getf kc5 dX5_end_4 fl_X5_103 (by decide) (hK.g5 hr) rfl ?_
  refine g_callV0 kc0 (hK.ctSize hr3) md_Jx4a65c_size_8abf5 dX5_end_7 ml_X5_85 im_Jx4a65c_size_8abf5 se_Jx4a65c_size_8abf5 (hK.g3 hr3) (RmOk.of (Nat.le_of_ble_eq_true rfl) (Nat.le_of_ble_eq_true rfl) (Nat.le_of_ble_eq_true rfl) (Nat.le_of_ble_eq_true rfl) (Nat.le_of_ble_eq_true rfl)) (kr_V ?_) kx_V
  refine g_aload0 dX5_end_10 ?_
  refine g_getf kc6 dX5_end_11 fl_X5_38 (by decide) hK.g0 rfl ?_
  refine g_callVN0 kc3 (ct_isEmpty (hK.g6 hi6)) md_X2_isEmpty dX5_end_14 ml_X5_111 im_X2_isEmpty se_X2_isEmpty (hK.g6 hi6) (RmOk.of (Nat.le_of_ble_eq_true rfl) (Nat.le_of_ble_eq_true rfl) (Nat.le_of_ble_eq_true rfl) (Nat.le_of_ble_eq_true rfl) (Nat.le_of_ble_eq_true rfl)) (kr_V ?_) kn_V
  refine g_if_eq_f (tgt := 24) dX5_end_17 (by decide) (by rw [hE]; decide) ?_
  refine g_iconst (v := 0) dX5_end_20 (by decide) ?_
  refine g_goto (tgt := 25) dX5_end_21 (by decide) ?_
  refine g_iadd dX5_end_25 ?_
  rw [show nI (S.ln (S.oR + 4)) + 0 = nI (S.ln (S.oR + 4)) from i32_add0 _]
  refine g_istore1 dX5_end_26 ?_
  refine g_iload1 dX5_end_27 ?_
  refine g_if_ne_f (tgt := 41) dX5_end_28 (by decide) (by rw [h0]; decide) ?_
  refine g_throwS tw_X5_78_115_82 dX5_end_31 dX5_end_34 dX5_end_35 dX5_end_37 dX5_end_40 (fun _ h => nomatch h) (Nat.le_of_ble_eq_true rfl) (Nat.le_of_ble_eq_true rfl) ?_ (Nat.le_of_ble_eq_true rfl) (Nat.le_of_ble_eq_true rfl)
  exact ⟨rfl, rfl⟩

set_option maxRecDepth 100000 in
theorem kt_end_a1n {G : Gx} {X : Nat → Prop} {w0 w : Wd} {S : KS} (hK : Kl G X w0 S w) (hE : decide (nI (S.pS S.oP) = 0) = true) (h0 : 0 < S.ln (S.oR + 4)) (h1 : 15 ≤ S.ln 1) : Ct G yX5_end kw_X5_end rm_X5_end [.ref (S.ad 0 0)] w (PX "java/lang/IllegalStateException" w) := by
  have hr := hK.cl.oR
  have hr3 : S.oR + 4 < S.nn 3 := by have := hK.u3; omega
  have hr1 : 1 < S.nn 3 := by have := hK.u3; omega
  have hi6 := hK.cl.oP
  have hln : S.ln (S.oR + 4) ≤ 200 := by have := hK.cl.cp _ hr3; omega
  have hln1 : S.ln 1 ≤ 200 := by have := hK.cl.cp _ hr1; omega
  refine ct_intro RX5 "end" (by decide +kernel) rfl rfl rfl (Nat.le_of_ble_eq_true rfl) [some (.ref (S.ad 0 0)), none] rfl (fun C => ?_)
  refine g_aload0 dX5_end_0 ?_
  refine g_getf kc6 dX5_end_1 fl_X5_31 (by decide) hK.g0 rfl ?_
  refine g_getf kc5 dX5_end_4 fl_X5_103 (by decide) (hK.g5 hr) rfl ?_
  refine g_callV0 kc0 (hK.ctSize hr3) md_Jx4a65c_size_8abf5 dX5_end_7 ml_X5_85 im_Jx4a65c_size_8abf5 se_Jx4a65c_size_8abf5 (hK.g3 hr3) (RmOk.of (Nat.le_of_ble_eq_true rfl) (Nat.le_of_ble_eq_true rfl) (Nat.le_of_ble_eq_true rfl) (Nat.le_of_ble_eq_true rfl) (Nat.le_of_ble_eq_true rfl)) (kr_V ?_) kx_V
  refine g_aload0 dX5_end_10 ?_
  refine g_getf kc6 dX5_end_11 fl_X5_38 (by decide) hK.g0 rfl ?_
  refine g_callVN0 kc3 (ct_isEmpty (hK.g6 hi6)) md_X2_isEmpty dX5_end_14 ml_X5_111 im_X2_isEmpty se_X2_isEmpty (hK.g6 hi6) (RmOk.of (Nat.le_of_ble_eq_true rfl) (Nat.le_of_ble_eq_true rfl) (Nat.le_of_ble_eq_true rfl) (Nat.le_of_ble_eq_true rfl) (Nat.le_of_ble_eq_true rfl)) (kr_V ?_) kn_V
  refine g_if_eq_f (tgt := 24) dX5_end_17 (by decide) (by rw [hE]; decide) ?_
  refine g_iconst (v := 0) dX5_end_20 (by decide) ?_
  refine g_goto (tgt := 25) dX5_end_21 (by decide) ?_
  refine g_iadd dX5_end_25 ?_
  rw [show nI (S.ln (S.oR + 4)) + 0 = nI (S.ln (S.oR + 4)) from i32_add0 _]
  refine g_istore1 dX5_end_26 ?_
  refine g_iload1 dX5_end_27 ?_
  refine g_if_ne_t (tgt := 41) dX5_end_28 (by decide) (fun z => absurd ((nI_eq (b := 0) (by omega) (by decide)).mp z) (by omega)) ?_
  refine g_aload0 dX5_end_41 ?_
  refine g_getf kc6 dX5_end_42 fl_X5_25 (by decide) hK.g0 rfl ?_
  refine g_callV0 kc0 (hK.ctSize hr1) md_Jx4a65c_size_8abf5 dX5_end_45 ml_X5_85 im_Jx4a65c_size_8abf5 se_Jx4a65c_size_8abf5 (hK.g3 hr1) (RmOk.of (Nat.le_of_ble_eq_true rfl) (Nat.le_of_ble_eq_true rfl) (Nat.le_of_ble_eq_true rfl) (Nat.le_of_ble_eq_true rfl) (Nat.le_of_ble_eq_true rfl)) (kr_V ?_) kx_V
  refine g_bipush (v := 15) dX5_end_48 (by decide) ?_
  refine g_icmp_lt_f (tgt := 63) dX5_end_50 (by decide) (fun z => absurd ((nI_ltI (b := 15) (by omega) (by decide)).mp z) (by omega)) ?_
  refine g_throwS tw_X5_78_117_82 dX5_end_53 dX5_end_56 dX5_end_57 dX5_end_59 dX5_end_62 (fun _ h => nomatch h) (Nat.le_of_ble_eq_true rfl) (Nat.le_of_ble_eq_true rfl) ?_ (Nat.le_of_ble_eq_true rfl) (Nat.le_of_ble_eq_true rfl)
  exact ⟨rfl, rfl⟩

set_option maxRecDepth 100000 in
theorem kt_end_a2n {G : Gx} {X : Nat → Prop} {w0 w : Wd} {S : KS} (hK : Kl G X w0 S w) (hE : decide (nI (S.pS S.oP) = 0) = true) (h0 : 0 < S.ln (S.oR + 4)) (h1 : S.ln 1 < 15) (h2 : ¬ S.kept + nI (S.ln (S.oR + 4)) ≤ 120) : Ct G yX5_end kw_X5_end rm_X5_end [.ref (S.ad 0 0)] w (PX "java/lang/IllegalStateException" w) := by
  have hr := hK.cl.oR
  have hr3 : S.oR + 4 < S.nn 3 := by have := hK.u3; omega
  have hr1 : 1 < S.nn 3 := by have := hK.u3; omega
  have hi6 := hK.cl.oP
  have hln : S.ln (S.oR + 4) ≤ 200 := by have := hK.cl.cp _ hr3; omega
  have hln1 : S.ln 1 ≤ 200 := by have := hK.cl.cp _ hr1; omega
  refine ct_intro RX5 "end" (by decide +kernel) rfl rfl rfl (Nat.le_of_ble_eq_true rfl) [some (.ref (S.ad 0 0)), none] rfl (fun C => ?_)
  refine g_aload0 dX5_end_0 ?_
  refine g_getf kc6 dX5_end_1 fl_X5_31 (by decide) hK.g0 rfl ?_
  refine g_getf kc5 dX5_end_4 fl_X5_103 (by decide) (hK.g5 hr) rfl ?_
  refine g_callV0 kc0 (hK.ctSize hr3) md_Jx4a65c_size_8abf5 dX5_end_7 ml_X5_85 im_Jx4a65c_size_8abf5 se_Jx4a65c_size_8abf5 (hK.g3 hr3) (RmOk.of (Nat.le_of_ble_eq_true rfl) (Nat.le_of_ble_eq_true rfl) (Nat.le_of_ble_eq_true rfl) (Nat.le_of_ble_eq_true rfl) (Nat.le_of_ble_eq_true rfl)) (kr_V ?_) kx_V
  refine g_aload0 dX5_end_10 ?_
  refine g_getf kc6 dX5_end_11 fl_X5_38 (by decide) hK.g0 rfl ?_
  refine g_callVN0 kc3 (ct_isEmpty (hK.g6 hi6)) md_X2_isEmpty dX5_end_14 ml_X5_111 im_X2_isEmpty se_X2_isEmpty (hK.g6 hi6) (RmOk.of (Nat.le_of_ble_eq_true rfl) (Nat.le_of_ble_eq_true rfl) (Nat.le_of_ble_eq_true rfl) (Nat.le_of_ble_eq_true rfl) (Nat.le_of_ble_eq_true rfl)) (kr_V ?_) kn_V
  refine g_if_eq_f (tgt := 24) dX5_end_17 (by decide) (by rw [hE]; decide) ?_
  refine g_iconst (v := 0) dX5_end_20 (by decide) ?_
  refine g_goto (tgt := 25) dX5_end_21 (by decide) ?_
  refine g_iadd dX5_end_25 ?_
  rw [show nI (S.ln (S.oR + 4)) + 0 = nI (S.ln (S.oR + 4)) from i32_add0 _]
  refine g_istore1 dX5_end_26 ?_
  refine g_iload1 dX5_end_27 ?_
  refine g_if_ne_t (tgt := 41) dX5_end_28 (by decide) (fun z => absurd ((nI_eq (b := 0) (by omega) (by decide)).mp z) (by omega)) ?_
  refine g_aload0 dX5_end_41 ?_
  refine g_getf kc6 dX5_end_42 fl_X5_25 (by decide) hK.g0 rfl ?_
  refine g_callV0 kc0 (hK.ctSize hr1) md_Jx4a65c_size_8abf5 dX5_end_45 ml_X5_85 im_Jx4a65c_size_8abf5 se_Jx4a65c_size_8abf5 (hK.g3 hr1) (RmOk.of (Nat.le_of_ble_eq_true rfl) (Nat.le_of_ble_eq_true rfl) (Nat.le_of_ble_eq_true rfl) (Nat.le_of_ble_eq_true rfl) (Nat.le_of_ble_eq_true rfl)) (kr_V ?_) kx_V
  refine g_bipush (v := 15) dX5_end_48 (by decide) ?_
  refine g_icmp_lt_t (tgt := 63) dX5_end_50 (by decide) (nI_lt h1 (by decide)) ?_
  refine g_aload0 dX5_end_63 ?_
  refine g_getf kc6 dX5_end_64 fl_X5_100 (by decide) hK.g0 rfl ?_
  refine g_iload1 dX5_end_67 ?_
  refine g_iadd dX5_end_68 ?_
  refine g_bipush (v := 120) dX5_end_69 (by decide) ?_
  refine g_icmp_le_f (tgt := 84) dX5_end_71 (by decide) h2 ?_
  refine g_throwS tw_X5_78_106_82 dX5_end_74 dX5_end_77 dX5_end_78 dX5_end_80 dX5_end_83 (fun _ h => nomatch h) (Nat.le_of_ble_eq_true rfl) (Nat.le_of_ble_eq_true rfl) ?_ (Nat.le_of_ble_eq_true rfl) (Nat.le_of_ble_eq_true rfl)
  exact ⟨rfl, rfl⟩

set_option maxRecDepth 100000 in
theorem kt_end_a1y {G : Gx} {X : Nat → Prop} {w0 w : Wd} {S : KS} (hK : Kl G X w0 S w) (hE : decide (nI (S.pS S.oP) = 0) = false) (h1 : 15 ≤ S.ln 1) : Ct G yX5_end kw_X5_end rm_X5_end [.ref (S.ad 0 0)] w (PX "java/lang/IllegalStateException" w) := by
  have hr := hK.cl.oR
  have hr3 : S.oR + 4 < S.nn 3 := by have := hK.u3; omega
  have hr1 : 1 < S.nn 3 := by have := hK.u3; omega
  have hi6 := hK.cl.oP
  have hln : S.ln (S.oR + 4) ≤ 200 := by have := hK.cl.cp _ hr3; omega
  have hln1 : S.ln 1 ≤ 200 := by have := hK.cl.cp _ hr1; omega
  refine ct_intro RX5 "end" (by decide +kernel) rfl rfl rfl (Nat.le_of_ble_eq_true rfl) [some (.ref (S.ad 0 0)), none] rfl (fun C => ?_)
  refine g_aload0 dX5_end_0 ?_
  refine g_getf kc6 dX5_end_1 fl_X5_31 (by decide) hK.g0 rfl ?_
  refine g_getf kc5 dX5_end_4 fl_X5_103 (by decide) (hK.g5 hr) rfl ?_
  refine g_callV0 kc0 (hK.ctSize hr3) md_Jx4a65c_size_8abf5 dX5_end_7 ml_X5_85 im_Jx4a65c_size_8abf5 se_Jx4a65c_size_8abf5 (hK.g3 hr3) (RmOk.of (Nat.le_of_ble_eq_true rfl) (Nat.le_of_ble_eq_true rfl) (Nat.le_of_ble_eq_true rfl) (Nat.le_of_ble_eq_true rfl) (Nat.le_of_ble_eq_true rfl)) (kr_V ?_) kx_V
  refine g_aload0 dX5_end_10 ?_
  refine g_getf kc6 dX5_end_11 fl_X5_38 (by decide) hK.g0 rfl ?_
  refine g_callVN0 kc3 (ct_isEmpty (hK.g6 hi6)) md_X2_isEmpty dX5_end_14 ml_X5_111 im_X2_isEmpty se_X2_isEmpty (hK.g6 hi6) (RmOk.of (Nat.le_of_ble_eq_true rfl) (Nat.le_of_ble_eq_true rfl) (Nat.le_of_ble_eq_true rfl) (Nat.le_of_ble_eq_true rfl) (Nat.le_of_ble_eq_true rfl)) (kr_V ?_) kn_V
  refine g_if_eq_t (tgt := 24) dX5_end_17 (by decide) (by rw [hE]; decide) ?_
  refine g_iconst (v := 1) dX5_end_24 (by decide) ?_
  refine g_iadd dX5_end_25 ?_
  rw [nI_1]
  refine g_istore1 dX5_end_26 ?_
  refine g_iload1 dX5_end_27 ?_
  refine g_if_ne_t (tgt := 41) dX5_end_28 (by decide) (fun z => absurd ((nI_eq (b := 0) (by omega) (by decide)).mp z) (by omega)) ?_
  refine g_aload0 dX5_end_41 ?_
  refine g_getf kc6 dX5_end_42 fl_X5_25 (by decide) hK.g0 rfl ?_
  refine g_callV0 kc0 (hK.ctSize hr1) md_Jx4a65c_size_8abf5 dX5_end_45 ml_X5_85 im_Jx4a65c_size_8abf5 se_Jx4a65c_size_8abf5 (hK.g3 hr1) (RmOk.of (Nat.le_of_ble_eq_true rfl) (Nat.le_of_ble_eq_true rfl) (Nat.le_of_ble_eq_true rfl) (Nat.le_of_ble_eq_true rfl) (Nat.le_of_ble_eq_true rfl)) (kr_V ?_) kx_V
  refine g_bipush (v := 15) dX5_end_48 (by decide) ?_
  refine g_icmp_lt_f (tgt := 63) dX5_end_50 (by decide) (fun z => absurd ((nI_ltI (b := 15) (by omega) (by decide)).mp z) (by omega)) ?_
  refine g_throwS tw_X5_78_117_82 dX5_end_53 dX5_end_56 dX5_end_57 dX5_end_59 dX5_end_62 (fun _ h => nomatch h) (Nat.le_of_ble_eq_true rfl) (Nat.le_of_ble_eq_true rfl) ?_ (Nat.le_of_ble_eq_true rfl) (Nat.le_of_ble_eq_true rfl)
  exact ⟨rfl, rfl⟩

set_option maxRecDepth 100000 in
theorem kt_end_a2y {G : Gx} {X : Nat → Prop} {w0 w : Wd} {S : KS} (hK : Kl G X w0 S w) (hE : decide (nI (S.pS S.oP) = 0) = false) (h1 : S.ln 1 < 15) (h2 : ¬ S.kept + nI (S.ln (S.oR + 4) + 1) ≤ 120) : Ct G yX5_end kw_X5_end rm_X5_end [.ref (S.ad 0 0)] w (PX "java/lang/IllegalStateException" w) := by
  have hr := hK.cl.oR
  have hr3 : S.oR + 4 < S.nn 3 := by have := hK.u3; omega
  have hr1 : 1 < S.nn 3 := by have := hK.u3; omega
  have hi6 := hK.cl.oP
  have hln : S.ln (S.oR + 4) ≤ 200 := by have := hK.cl.cp _ hr3; omega
  have hln1 : S.ln 1 ≤ 200 := by have := hK.cl.cp _ hr1; omega
  refine ct_intro RX5 "end" (by decide +kernel) rfl rfl rfl (Nat.le_of_ble_eq_true rfl) [some (.ref (S.ad 0 0)), none] rfl (fun C => ?_)
  refine g_aload0 dX5_end_0 ?_
  refine g_getf kc6 dX5_end_1 fl_X5_31 (by decide) hK.g0 rfl ?_
  refine g_getf kc5 dX5_end_4 fl_X5_103 (by decide) (hK.g5 hr) rfl ?_
  refine g_callV0 kc0 (hK.ctSize hr3) md_Jx4a65c_size_8abf5 dX5_end_7 ml_X5_85 im_Jx4a65c_size_8abf5 se_Jx4a65c_size_8abf5 (hK.g3 hr3) (RmOk.of (Nat.le_of_ble_eq_true rfl) (Nat.le_of_ble_eq_true rfl) (Nat.le_of_ble_eq_true rfl) (Nat.le_of_ble_eq_true rfl) (Nat.le_of_ble_eq_true rfl)) (kr_V ?_) kx_V
  refine g_aload0 dX5_end_10 ?_
  refine g_getf kc6 dX5_end_11 fl_X5_38 (by decide) hK.g0 rfl ?_
  refine g_callVN0 kc3 (ct_isEmpty (hK.g6 hi6)) md_X2_isEmpty dX5_end_14 ml_X5_111 im_X2_isEmpty se_X2_isEmpty (hK.g6 hi6) (RmOk.of (Nat.le_of_ble_eq_true rfl) (Nat.le_of_ble_eq_true rfl) (Nat.le_of_ble_eq_true rfl) (Nat.le_of_ble_eq_true rfl) (Nat.le_of_ble_eq_true rfl)) (kr_V ?_) kn_V
  refine g_if_eq_t (tgt := 24) dX5_end_17 (by decide) (by rw [hE]; decide) ?_
  refine g_iconst (v := 1) dX5_end_24 (by decide) ?_
  refine g_iadd dX5_end_25 ?_
  rw [nI_1]
  refine g_istore1 dX5_end_26 ?_
  refine g_iload1 dX5_end_27 ?_
  refine g_if_ne_t (tgt := 41) dX5_end_28 (by decide) (fun z => absurd ((nI_eq (b := 0) (by omega) (by decide)).mp z) (by omega)) ?_
  refine g_aload0 dX5_end_41 ?_
  refine g_getf kc6 dX5_end_42 fl_X5_25 (by decide) hK.g0 rfl ?_
  refine g_callV0 kc0 (hK.ctSize hr1) md_Jx4a65c_size_8abf5 dX5_end_45 ml_X5_85 im_Jx4a65c_size_8abf5 se_Jx4a65c_size_8abf5 (hK.g3 hr1) (RmOk.of (Nat.le_of_ble_eq_true rfl) (Nat.le_of_ble_eq_true rfl) (Nat.le_of_ble_eq_true rfl) (Nat.le_of_ble_eq_true rfl) (Nat.le_of_ble_eq_true rfl)) (kr_V ?_) kx_V
  refine g_bipush (v := 15) dX5_end_48 (by decide) ?_
  refine g_icmp_lt_t (tgt := 63) dX5_end_50 (by decide) (nI_lt h1 (by decide)) ?_
  refine g_aload0 dX5_end_63 ?_
  refine g_getf kc6 dX5_end_64 fl_X5_100 (by decide) hK.g0 rfl ?_
  refine g_iload1 dX5_end_67 ?_
  refine g_iadd dX5_end_68 ?_
  refine g_bipush (v := 120) dX5_end_69 (by decide) ?_
  refine g_icmp_le_f (tgt := 84) dX5_end_71 (by decide) h2 ?_
  refine g_throwS tw_X5_78_106_82 dX5_end_74 dX5_end_77 dX5_end_78 dX5_end_80 dX5_end_83 (fun _ h => nomatch h) (Nat.le_of_ble_eq_true rfl) (Nat.le_of_ble_eq_true rfl) ?_ (Nat.le_of_ble_eq_true rfl) (Nat.le_of_ble_eq_true rfl)
  exact ⟨rfl, rfl⟩

set_option maxRecDepth 100000 in
theorem kt_end_n {G : Gx} {X : Nat → Prop} {w0 w : Wd} {S : KS} (hK : Kl G X w0 S w) (hE : decide (nI (S.pS S.oP) = 0) = true) (hO : KO S) (h1 : S.ln 1 < 15) (h2 : S.kept + nI (S.ln (S.oR + 4)) ≤ 120) : Ct G yX5_end kw_X5_end rm_X5_end [.ref (S.ad 0 0)] w (PB (.int (nI (S.ln 1))) (KQ G X w0 S (keT S))) := by
  have hr := hK.cl.oR
  have hr3 : S.oR + 4 < S.nn 3 := by have := hK.u3; omega
  have hr1 : 1 < S.nn 3 := by have := hK.u3; omega
  have hi6 := hK.cl.oP
  have hln : S.ln (S.oR + 4) ≤ 200 := by have := hK.cl.cp _ hr3; omega
  have hln1 : S.ln 1 ≤ 200 := by have := hK.cl.cp _ hr1; omega
  have h0 := hO.2.2.2.2.1
  refine ct_intro RX5 "end" (by decide +kernel) rfl rfl rfl (Nat.le_of_ble_eq_true rfl) [some (.ref (S.ad 0 0)), none] rfl (fun C => ?_)
  refine g_aload0 dX5_end_0 ?_
  refine g_getf kc6 dX5_end_1 fl_X5_31 (by decide) hK.g0 rfl ?_
  refine g_getf kc5 dX5_end_4 fl_X5_103 (by decide) (hK.g5 hr) rfl ?_
  refine g_callV0 kc0 (hK.ctSize hr3) md_Jx4a65c_size_8abf5 dX5_end_7 ml_X5_85 im_Jx4a65c_size_8abf5 se_Jx4a65c_size_8abf5 (hK.g3 hr3) (RmOk.of (Nat.le_of_ble_eq_true rfl) (Nat.le_of_ble_eq_true rfl) (Nat.le_of_ble_eq_true rfl) (Nat.le_of_ble_eq_true rfl) (Nat.le_of_ble_eq_true rfl)) (kr_V ?_) kx_V
  refine g_aload0 dX5_end_10 ?_
  refine g_getf kc6 dX5_end_11 fl_X5_38 (by decide) hK.g0 rfl ?_
  refine g_callVN0 kc3 (ct_isEmpty (hK.g6 hi6)) md_X2_isEmpty dX5_end_14 ml_X5_111 im_X2_isEmpty se_X2_isEmpty (hK.g6 hi6) (RmOk.of (Nat.le_of_ble_eq_true rfl) (Nat.le_of_ble_eq_true rfl) (Nat.le_of_ble_eq_true rfl) (Nat.le_of_ble_eq_true rfl) (Nat.le_of_ble_eq_true rfl)) (kr_V ?_) kn_V
  refine g_if_eq_f (tgt := 24) dX5_end_17 (by decide) (by rw [hE]; decide) ?_
  refine g_iconst (v := 0) dX5_end_20 (by decide) ?_
  refine g_goto (tgt := 25) dX5_end_21 (by decide) ?_
  refine g_iadd dX5_end_25 ?_
  rw [show nI (S.ln (S.oR + 4)) + 0 = nI (S.ln (S.oR + 4)) from i32_add0 _]
  refine g_istore1 dX5_end_26 ?_
  refine g_iload1 dX5_end_27 ?_
  refine g_if_ne_t (tgt := 41) dX5_end_28 (by decide) (fun z => absurd ((nI_eq (b := 0) (by omega) (by decide)).mp z) (by omega)) ?_
  refine g_aload0 dX5_end_41 ?_
  refine g_getf kc6 dX5_end_42 fl_X5_25 (by decide) hK.g0 rfl ?_
  refine g_callV0 kc0 (hK.ctSize hr1) md_Jx4a65c_size_8abf5 dX5_end_45 ml_X5_85 im_Jx4a65c_size_8abf5 se_Jx4a65c_size_8abf5 (hK.g3 hr1) (RmOk.of (Nat.le_of_ble_eq_true rfl) (Nat.le_of_ble_eq_true rfl) (Nat.le_of_ble_eq_true rfl) (Nat.le_of_ble_eq_true rfl) (Nat.le_of_ble_eq_true rfl)) (kr_V ?_) kx_V
  refine g_bipush (v := 15) dX5_end_48 (by decide) ?_
  refine g_icmp_lt_t (tgt := 63) dX5_end_50 (by decide) (nI_lt h1 (by decide)) ?_
  refine g_aload0 dX5_end_63 ?_
  refine g_getf kc6 dX5_end_64 fl_X5_100 (by decide) hK.g0 rfl ?_
  refine g_iload1 dX5_end_67 ?_
  refine g_iadd dX5_end_68 ?_
  refine g_bipush (v := 120) dX5_end_69 (by decide) ?_
  refine g_icmp_le_t (tgt := 84) dX5_end_71 (by decide) h2 ?_
  refine g_aload0 dX5_end_84 ?_
  refine g_getf kc6 dX5_end_85 fl_X5_38 (by decide) hK.g0 rfl ?_
  refine g_callVN0 kc3 (ct_isEmpty (hK.g6 hi6)) md_X2_isEmpty dX5_end_88 ml_X5_111 im_X2_isEmpty se_X2_isEmpty (hK.g6 hi6) (RmOk.of (Nat.le_of_ble_eq_true rfl) (Nat.le_of_ble_eq_true rfl) (Nat.le_of_ble_eq_true rfl) (Nat.le_of_ble_eq_true rfl) (Nat.le_of_ble_eq_true rfl)) (kr_V ?_) kn_V
  refine g_if_ne_t (tgt := 98) dX5_end_91 (by decide) (by rw [hE]; decide) ?_
  refine g_aload0 dX5_end_98 ?_
  refine g_callV0 kc6 (kt_keepOpenRun hK hO) md_X5_keepOpenRun dX5_end_99 ml_X5_119 im_X5_keepOpenRun se_X5_keepOpenRun hK.g0 (RmOk.of (Nat.le_of_ble_eq_true rfl) (Nat.le_of_ble_eq_true rfl) (Nat.le_of_ble_eq_true rfl) (Nat.le_of_ble_eq_true rfl) (Nat.le_of_ble_eq_true rfl)) (kr_N (fun w1 hw1 => ?_)) kx_N
  obtain ⟨S1, hK1, hv1, ha1⟩ := hw1
  have hg := hK1.g0
  rw [ha1] at hg
  have hr4 : 1 < S1.nn 3 := by have := hK1.u3; omega
  have e1 : S1.ln 1 = S.ln 1 + 1 := (congrArg (fun T => KS.ln T 1) hv1 : S1.v.ln 1 = (keT S).v.ln 1).trans (keT_ln1 (by omega))
  refine g_aload0 dX5_end_102 ?_
  refine g_getf kc6 dX5_end_103 fl_X5_25 (by decide) hg rfl ?_
  refine g_callV0 kc0 (hK1.ctSize (l := 1) hr4) md_Jx4a65c_size_8abf5 dX5_end_106 ml_X5_85 im_Jx4a65c_size_8abf5 se_Jx4a65c_size_8abf5 (hK1.g3 (i := 1) hr4) (RmOk.of (Nat.le_of_ble_eq_true rfl) (Nat.le_of_ble_eq_true rfl) (Nat.le_of_ble_eq_true rfl) (Nat.le_of_ble_eq_true rfl) (Nat.le_of_ble_eq_true rfl)) (kr_V ?_) kx_V
  refine g_iconst (v := 1) dX5_end_109 (by decide) ?_
  refine g_isub dX5_end_110 ?_
  refine g_iret dX5_end_111 ?_ (Nat.le_of_ble_eq_true rfl) (Nat.le_of_ble_eq_true rfl)
  exact ⟨by rw [e1, nI_m1], S1, hK1, hv1, ha1⟩

set_option maxRecDepth 100000 in
theorem kt_end_y {G : Gx} {X : Nat → Prop} {w0 w : Wd} {S : KS} (hK : Kl G X w0 S w) (hE : decide (nI (S.pS S.oP) = 0) = false) (hoP : S.oP = S.rF S.oR + S.ln (S.oR + 4)) (h67 : S.nn 6 = S.nn 7) (hm : S.ln (S.oR + 4) ≤ 120) (hO : KO (cpT S)) (h1 : S.ln 1 < 15) (h2 : S.kept + nI (S.ln (S.oR + 4) + 1) ≤ 120) : Ct G yX5_end kw_X5_end rm_X5_end [.ref (S.ad 0 0)] w (PB (.int (nI (S.ln 1))) (KQ G X w0 S (keT (cpT S)))) := by
  have hr := hK.cl.oR
  have hr3 : S.oR + 4 < S.nn 3 := by have := hK.u3; omega
  have hr1 : 1 < S.nn 3 := by have := hK.u3; omega
  have hi6 := hK.cl.oP
  have hln : S.ln (S.oR + 4) ≤ 200 := by have := hK.cl.cp _ hr3; omega
  have hln1 : S.ln 1 ≤ 200 := by have := hK.cl.cp _ hr1; omega
  refine ct_intro RX5 "end" (by decide +kernel) rfl rfl rfl (Nat.le_of_ble_eq_true rfl) [some (.ref (S.ad 0 0)), none] rfl (fun C => ?_)
  refine g_aload0 dX5_end_0 ?_
  refine g_getf kc6 dX5_end_1 fl_X5_31 (by decide) hK.g0 rfl ?_
  refine g_getf kc5 dX5_end_4 fl_X5_103 (by decide) (hK.g5 hr) rfl ?_
  refine g_callV0 kc0 (hK.ctSize hr3) md_Jx4a65c_size_8abf5 dX5_end_7 ml_X5_85 im_Jx4a65c_size_8abf5 se_Jx4a65c_size_8abf5 (hK.g3 hr3) (RmOk.of (Nat.le_of_ble_eq_true rfl) (Nat.le_of_ble_eq_true rfl) (Nat.le_of_ble_eq_true rfl) (Nat.le_of_ble_eq_true rfl) (Nat.le_of_ble_eq_true rfl)) (kr_V ?_) kx_V
  refine g_aload0 dX5_end_10 ?_
  refine g_getf kc6 dX5_end_11 fl_X5_38 (by decide) hK.g0 rfl ?_
  refine g_callVN0 kc3 (ct_isEmpty (hK.g6 hi6)) md_X2_isEmpty dX5_end_14 ml_X5_111 im_X2_isEmpty se_X2_isEmpty (hK.g6 hi6) (RmOk.of (Nat.le_of_ble_eq_true rfl) (Nat.le_of_ble_eq_true rfl) (Nat.le_of_ble_eq_true rfl) (Nat.le_of_ble_eq_true rfl) (Nat.le_of_ble_eq_true rfl)) (kr_V ?_) kn_V
  refine g_if_eq_t (tgt := 24) dX5_end_17 (by decide) (by rw [hE]; decide) ?_
  refine g_iconst (v := 1) dX5_end_24 (by decide) ?_
  refine g_iadd dX5_end_25 ?_
  rw [nI_1]
  refine g_istore1 dX5_end_26 ?_
  refine g_iload1 dX5_end_27 ?_
  refine g_if_ne_t (tgt := 41) dX5_end_28 (by decide) (fun z => absurd ((nI_eq (b := 0) (by omega) (by decide)).mp z) (by omega)) ?_
  refine g_aload0 dX5_end_41 ?_
  refine g_getf kc6 dX5_end_42 fl_X5_25 (by decide) hK.g0 rfl ?_
  refine g_callV0 kc0 (hK.ctSize hr1) md_Jx4a65c_size_8abf5 dX5_end_45 ml_X5_85 im_Jx4a65c_size_8abf5 se_Jx4a65c_size_8abf5 (hK.g3 hr1) (RmOk.of (Nat.le_of_ble_eq_true rfl) (Nat.le_of_ble_eq_true rfl) (Nat.le_of_ble_eq_true rfl) (Nat.le_of_ble_eq_true rfl) (Nat.le_of_ble_eq_true rfl)) (kr_V ?_) kx_V
  refine g_bipush (v := 15) dX5_end_48 (by decide) ?_
  refine g_icmp_lt_t (tgt := 63) dX5_end_50 (by decide) (nI_lt h1 (by decide)) ?_
  refine g_aload0 dX5_end_63 ?_
  refine g_getf kc6 dX5_end_64 fl_X5_100 (by decide) hK.g0 rfl ?_
  refine g_iload1 dX5_end_67 ?_
  refine g_iadd dX5_end_68 ?_
  refine g_bipush (v := 120) dX5_end_69 (by decide) ?_
  refine g_icmp_le_t (tgt := 84) dX5_end_71 (by decide) h2 ?_
  refine g_aload0 dX5_end_84 ?_
  refine g_getf kc6 dX5_end_85 fl_X5_38 (by decide) hK.g0 rfl ?_
  refine g_callVN0 kc3 (ct_isEmpty (hK.g6 hi6)) md_X2_isEmpty dX5_end_88 ml_X5_111 im_X2_isEmpty se_X2_isEmpty (hK.g6 hi6) (RmOk.of (Nat.le_of_ble_eq_true rfl) (Nat.le_of_ble_eq_true rfl) (Nat.le_of_ble_eq_true rfl) (Nat.le_of_ble_eq_true rfl) (Nat.le_of_ble_eq_true rfl)) (kr_V ?_) kn_V
  refine g_if_ne_f (tgt := 98) dX5_end_91 (by decide) (by rw [hE]; decide) ?_
  refine g_aload0 dX5_end_94 ?_
  refine g_callV0 kc6 (kt_closePage hK hoP h67 hm) md_X5_closePage dX5_end_95 ml_X5_108 im_X5_closePage se_X5_closePage hK.g0 (RmOk.of (Nat.le_of_ble_eq_true rfl) (Nat.le_of_ble_eq_true rfl) (Nat.le_of_ble_eq_true rfl) (Nat.le_of_ble_eq_true rfl) (Nat.le_of_ble_eq_true rfl)) (kr_N (fun w1 hw1 => ?_)) kx_N
  obtain ⟨S0, hK0, hv0, ha0⟩ := hw1
  have hg0 := hK0.g0
  rw [ha0] at hg0
  have hko := kt_keepOpenRun hK0 (KO_v hv0 hO)
  rw [ha0] at hko
  refine g_aload0 dX5_end_98 ?_
  refine g_callV0 kc6 hko md_X5_keepOpenRun dX5_end_99 ml_X5_119 im_X5_keepOpenRun se_X5_keepOpenRun hg0 (RmOk.of (Nat.le_of_ble_eq_true rfl) (Nat.le_of_ble_eq_true rfl) (Nat.le_of_ble_eq_true rfl) (Nat.le_of_ble_eq_true rfl) (Nat.le_of_ble_eq_true rfl)) (kr_N (fun w1 hw1 => ?_)) kx_N
  obtain ⟨S1, hK1, hv1, ha1⟩ := hw1
  have ha1 : S1.ad 0 0 = S.ad 0 0 := ha1.trans ha0
  have hv1 : S1.v = (keT (cpT S)).v := hv1.trans (keT_v hv0)
  have hg := hK1.g0
  rw [ha1] at hg
  have hr4 : 1 < S1.nn 3 := by have := hK1.u3; omega
  have e1 : S1.ln 1 = S.ln 1 + 1 := (congrArg (fun T => KS.ln T 1) hv1 : S1.v.ln 1 = (keT (cpT S)).v.ln 1).trans ((keT_ln1 (S := cpT S) (show 1 ≠ S.nn 3 by omega)).trans (congrArg (fun z => z + 1) (show updN S.ln (S.oR + 4) (S.ln (S.oR + 4) + 1) 1 = S.ln 1 from updN_n (by omega))))
  refine g_aload0 dX5_end_102 ?_
  refine g_getf kc6 dX5_end_103 fl_X5_25 (by decide) hg rfl ?_
  refine g_callV0 kc0 (hK1.ctSize (l := 1) hr4) md_Jx4a65c_size_8abf5 dX5_end_106 ml_X5_85 im_Jx4a65c_size_8abf5 se_Jx4a65c_size_8abf5 (hK1.g3 (i := 1) hr4) (RmOk.of (Nat.le_of_ble_eq_true rfl) (Nat.le_of_ble_eq_true rfl) (Nat.le_of_ble_eq_true rfl) (Nat.le_of_ble_eq_true rfl) (Nat.le_of_ble_eq_true rfl)) (kr_V ?_) kx_V
  refine g_iconst (v := 1) dX5_end_109 (by decide) ?_
  refine g_isub dX5_end_110 ?_
  refine g_iret dX5_end_111 ?_ (Nat.le_of_ble_eq_true rfl) (Nat.le_of_ble_eq_true rfl)
  exact ⟨by rw [e1, nI_m1], S1, hK1, hv1, ha1⟩

