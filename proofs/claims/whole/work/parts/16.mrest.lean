/-! The reference: read, clear, bundle, its constructor. -/
abbrev rm_X6_read : Room := { frames := 2, cells := 0, slots := 0, locals := 45 }

set_option maxRecDepth 100000 in
theorem mt_read_a {G : Gx} {w w0 : Wd} {am : Nat → Nat} {th : Int32} {N : Nat → Nat} {A : Nat → Nat → Int32} (hM : Mz G am w0 (tI th N) A w) {r d pg l : Int32} (h : inb r 0 3 = false) : Ct G yX6_read kw_X6_read rm_X6_read [.ref (am 0), .int r, .int d, .int pg, .int l] w (PB (.int (0)) (Mz G am w0 (tI 1 N) A)) := by
  refine ct_intro RX6 "read" (by decide +kernel) rfl rfl rfl (Nat.le_of_ble_eq_true rfl) [some (.ref (am 0)), some (.int r), some (.int d), some (.int pg), some (.int l), none] rfl (fun C => ?_)
  refine g_aload0 dX6_read_0 ?_
  refine g_iload1 dX6_read_1 ?_
  refine g_callS1 ct_isReader md_X6_isReader dX6_read_2 ml_X6_135 st_X6_isReader (RmOk.of (Nat.le_of_ble_eq_true rfl) (Nat.le_of_ble_eq_true rfl) (Nat.le_of_ble_eq_true rfl) (Nat.le_of_ble_eq_true rfl) (Nat.le_of_ble_eq_true rfl)) (kr_V ?_) kx_V
  refine g_if_eq_t (tgt := 12) dX6_read_5 (by decide) (bI_0.mpr h) ?_
  refine g_iconst (v := 1) dX6_read_12 (by decide) ?_
  refine g_mput0 hM dX6_read_13 fl_X6_74 (fun w1 hM => ?_)
  refine g_aload0 dX6_read_16 ?_
  refine g_getf kc7 dX6_read_17 fl_X6_74 (by decide) hM.1 (show _ = some (Value.int (1)) from rfl) ?_
  refine g_if_ne_t (tgt := 98) dX6_read_20 (by decide) (by decide) ?_
  refine g_aload0 dX6_read_98 ?_
  refine g_getf kc7 dX6_read_99 fl_X6_74 (by decide) hM.1 (show _ = some (Value.int (1)) from rfl) ?_
  refine g_if_ne_t (tgt := 123) dX6_read_102 (by decide) (by decide) ?_
  refine g_aload0 dX6_read_123 ?_
  refine g_getf kc7 dX6_read_124 fl_X6_74 (by decide) hM.1 (show _ = some (Value.int (1)) from rfl) ?_
  refine g_if_le_f (tgt := 134) dX6_read_127 (by decide) (by decide) ?_
  refine g_iconst (v := 0) dX6_read_130 (by decide) ?_
  refine g_goto (tgt := 163) dX6_read_131 (by decide) ?_
  refine g_iret dX6_read_163 ?_ (Nat.le_of_ble_eq_true rfl) (Nat.le_of_ble_eq_true rfl)
  exact ⟨rfl, hM⟩

set_option maxRecDepth 100000 in
theorem mt_read_b1 {G : Gx} {w w0 : Wd} {am : Nat → Nat} {th : Int32} {N : Nat → Nat} {A : Nat → Nat → Int32} (hM : Mz G am w0 (tI th N) A w) {r : Nat} (hr : inb (nI r) 0 3 = true) {d pg l : Int32} (h : inb d 0 (nI (N 17) - 1) = false) : Ct G yX6_read kw_X6_read rm_X6_read [.ref (am 0), .int (nI r), .int d, .int pg, .int l] w (PB (.int (0)) (Mz G am w0 (tI 2 N) A)) := by
  refine ct_intro RX6 "read" (by decide +kernel) rfl rfl rfl (Nat.le_of_ble_eq_true rfl) [some (.ref (am 0)), some (.int (nI r)), some (.int d), some (.int pg), some (.int l), none] rfl (fun C => ?_)
  refine g_aload0 dX6_read_0 ?_
  refine g_iload1 dX6_read_1 ?_
  refine g_callS1 ct_isReader md_X6_isReader dX6_read_2 ml_X6_135 st_X6_isReader (RmOk.of (Nat.le_of_ble_eq_true rfl) (Nat.le_of_ble_eq_true rfl) (Nat.le_of_ble_eq_true rfl) (Nat.le_of_ble_eq_true rfl) (Nat.le_of_ble_eq_true rfl)) (kr_V ?_) kx_V
  refine g_if_eq_f (tgt := 12) dX6_read_5 (by decide) (bI_n.mpr hr) ?_
  refine g_iconst (v := 0) dX6_read_8 (by decide) ?_
  refine g_goto (tgt := 13) dX6_read_9 (by decide) ?_
  refine g_mput0 hM dX6_read_13 fl_X6_74 (fun w1 hM => ?_)
  refine g_aload0 dX6_read_16 ?_
  refine g_getf kc7 dX6_read_17 fl_X6_74 (by decide) hM.1 (show _ = some (Value.int (0)) from rfl) ?_
  refine g_if_ne_f (tgt := 98) dX6_read_20 (by decide) (by decide) ?_
  refine g_iload2 dX6_read_23 ?_
  refine g_iconst (v := 0) dX6_read_24 (by decide) ?_
  refine g_aload0 dX6_read_25 ?_
  refine g_getf kc7 dX6_read_26 fl_X6_107 (by decide) hM.1 (show _ = some (Value.int (nI (N 17))) from rfl) ?_
  refine g_iconst (v := 1) dX6_read_29 (by decide) ?_
  refine g_isub dX6_read_30 ?_
  refine g_callS3 ct_in md_X6_in dX6_read_31 ml_X6_81 st_X6_in (RmOk.of (Nat.le_of_ble_eq_true rfl) (Nat.le_of_ble_eq_true rfl) (Nat.le_of_ble_eq_true rfl) (Nat.le_of_ble_eq_true rfl) (Nat.le_of_ble_eq_true rfl)) (kr_V ?_) kx_V
  refine g_if_eq_t (tgt := 81) dX6_read_34 (by decide) (bI_0.mpr h) ?_
  refine g_iconst (v := 0) dX6_read_81 (by decide) ?_
  refine g_istore5 dX6_read_82 ?_
  refine g_aload0 dX6_read_84 ?_
  refine g_iload5 dX6_read_85 ?_
  refine g_if_eq_t (tgt := 94) dX6_read_87 (by decide) (by decide) ?_
  refine g_iconst (v := 2) dX6_read_94 (by decide) ?_
  refine g_mput0 hM dX6_read_95 fl_X6_74 (fun w1 hM => ?_)
  refine g_aload0 dX6_read_98 ?_
  refine g_getf kc7 dX6_read_99 fl_X6_74 (by decide) hM.1 (show _ = some (Value.int (2)) from rfl) ?_
  refine g_if_ne_t (tgt := 123) dX6_read_102 (by decide) (by decide) ?_
  refine g_aload0 dX6_read_123 ?_
  refine g_getf kc7 dX6_read_124 fl_X6_74 (by decide) hM.1 (show _ = some (Value.int (2)) from rfl) ?_
  refine g_if_le_f (tgt := 134) dX6_read_127 (by decide) (by decide) ?_
  refine g_iconst (v := 0) dX6_read_130 (by decide) ?_
  refine g_goto (tgt := 163) dX6_read_131 (by decide) ?_
  refine g_iret dX6_read_163 ?_ (Nat.le_of_ble_eq_true rfl) (Nat.le_of_ble_eq_true rfl)
  exact ⟨rfl, hM⟩

set_option maxRecDepth 100000 in
theorem mt_read_b2 {G : Gx} {w w0 : Wd} {am : Nat → Nat} {th : Int32} {N : Nat → Nat} {A : Nat → Nat → Int32} (hM : Mz G am w0 (tI th N) A w) {r : Nat} (hr : inb (nI r) 0 3 = true) {d ln : Nat} (hd : inb (nI d) 0 (nI (N 17) - 1) = true) (hdn : d < 120) (hln : A 19 d = nI ln) {pg l : Int32} (h : inb pg 0 (nI ln - 1) = false) : Ct G yX6_read kw_X6_read rm_X6_read [.ref (am 0), .int (nI r), .int (nI d), .int pg, .int l] w (PB (.int (0)) (Mz G am w0 (tI 2 N) A)) := by
  refine ct_intro RX6 "read" (by decide +kernel) rfl rfl rfl (Nat.le_of_ble_eq_true rfl) [some (.ref (am 0)), some (.int (nI r)), some (.int (nI d)), some (.int pg), some (.int l), none] rfl (fun C => ?_)
  refine g_aload0 dX6_read_0 ?_
  refine g_iload1 dX6_read_1 ?_
  refine g_callS1 ct_isReader md_X6_isReader dX6_read_2 ml_X6_135 st_X6_isReader (RmOk.of (Nat.le_of_ble_eq_true rfl) (Nat.le_of_ble_eq_true rfl) (Nat.le_of_ble_eq_true rfl) (Nat.le_of_ble_eq_true rfl) (Nat.le_of_ble_eq_true rfl)) (kr_V ?_) kx_V
  refine g_if_eq_f (tgt := 12) dX6_read_5 (by decide) (bI_n.mpr hr) ?_
  refine g_iconst (v := 0) dX6_read_8 (by decide) ?_
  refine g_goto (tgt := 13) dX6_read_9 (by decide) ?_
  refine g_mput0 hM dX6_read_13 fl_X6_74 (fun w1 hM => ?_)
  refine g_aload0 dX6_read_16 ?_
  refine g_getf kc7 dX6_read_17 fl_X6_74 (by decide) hM.1 (show _ = some (Value.int (0)) from rfl) ?_
  refine g_if_ne_f (tgt := 98) dX6_read_20 (by decide) (by decide) ?_
  refine g_iload2 dX6_read_23 ?_
  refine g_iconst (v := 0) dX6_read_24 (by decide) ?_
  refine g_aload0 dX6_read_25 ?_
  refine g_getf kc7 dX6_read_26 fl_X6_107 (by decide) hM.1 (show _ = some (Value.int (nI (N 17))) from rfl) ?_
  refine g_iconst (v := 1) dX6_read_29 (by decide) ?_
  refine g_isub dX6_read_30 ?_
  refine g_callS3 ct_in md_X6_in dX6_read_31 ml_X6_81 st_X6_in (RmOk.of (Nat.le_of_ble_eq_true rfl) (Nat.le_of_ble_eq_true rfl) (Nat.le_of_ble_eq_true rfl) (Nat.le_of_ble_eq_true rfl) (Nat.le_of_ble_eq_true rfl)) (kr_V ?_) kx_V
  refine g_if_eq_f (tgt := 81) dX6_read_34 (by decide) (bI_n.mpr hd) ?_
  refine g_iload3 dX6_read_37 ?_
  refine g_iconst (v := 0) dX6_read_38 (by decide) ?_
  refine g_aload0 dX6_read_39 ?_
  refine g_getf kc7 dX6_read_40 fl_X6_43 (by decide) hM.1 rfl ?_
  refine g_iload2 dX6_read_43 ?_
  refine g_miald (k := 19) (n := 120) hM rfl (by decide) (fun _ => rfl) dX6_read_44 (by omega) (by decide) ?_
  rw [hln]
  refine g_iconst (v := 1) dX6_read_45 (by decide) ?_
  refine g_isub dX6_read_46 ?_
  refine g_callS3 ct_in md_X6_in dX6_read_47 ml_X6_81 st_X6_in (RmOk.of (Nat.le_of_ble_eq_true rfl) (Nat.le_of_ble_eq_true rfl) (Nat.le_of_ble_eq_true rfl) (Nat.le_of_ble_eq_true rfl) (Nat.le_of_ble_eq_true rfl)) (kr_V ?_) kx_V
  refine g_if_eq_t (tgt := 81) dX6_read_50 (by decide) (bI_0.mpr h) ?_
  refine g_iconst (v := 0) dX6_read_81 (by decide) ?_
  refine g_istore5 dX6_read_82 ?_
  refine g_aload0 dX6_read_84 ?_
  refine g_iload5 dX6_read_85 ?_
  refine g_if_eq_t (tgt := 94) dX6_read_87 (by decide) (by decide) ?_
  refine g_iconst (v := 2) dX6_read_94 (by decide) ?_
  refine g_mput0 hM dX6_read_95 fl_X6_74 (fun w1 hM => ?_)
  refine g_aload0 dX6_read_98 ?_
  refine g_getf kc7 dX6_read_99 fl_X6_74 (by decide) hM.1 (show _ = some (Value.int (2)) from rfl) ?_
  refine g_if_ne_t (tgt := 123) dX6_read_102 (by decide) (by decide) ?_
  refine g_aload0 dX6_read_123 ?_
  refine g_getf kc7 dX6_read_124 fl_X6_74 (by decide) hM.1 (show _ = some (Value.int (2)) from rfl) ?_
  refine g_if_le_f (tgt := 134) dX6_read_127 (by decide) (by decide) ?_
  refine g_iconst (v := 0) dX6_read_130 (by decide) ?_
  refine g_goto (tgt := 163) dX6_read_131 (by decide) ?_
  refine g_iret dX6_read_163 ?_ (Nat.le_of_ble_eq_true rfl) (Nat.le_of_ble_eq_true rfl)
  exact ⟨rfl, hM⟩

set_option maxRecDepth 100000 in
theorem mt_read_b3 {G : Gx} {w w0 : Wd} {am : Nat → Nat} {th : Int32} {N : Nat → Nat} {A : Nat → Nat → Int32} (hM : Mz G am w0 (tI th N) A w) {r : Nat} (hr : inb (nI r) 0 3 = true) {d ln f : Nat} (hd : inb (nI d) 0 (nI (N 17) - 1) = true) (hdn : d < 120) (hln : A 19 d = nI ln) {pg s : Nat} (hpg : inb (nI pg) 0 (nI ln - 1) = true) (hf : A 18 d = nI f) (hfp : f + pg < 121) (hs : A 8 (f + pg) = nI s) {l : Int32} (h : inb l 0 (nI s - 1) = false) : Ct G yX6_read kw_X6_read rm_X6_read [.ref (am 0), .int (nI r), .int (nI d), .int (nI pg), .int l] w (PB (.int (0)) (Mz G am w0 (tI 2 N) A)) := by
  refine ct_intro RX6 "read" (by decide +kernel) rfl rfl rfl (Nat.le_of_ble_eq_true rfl) [some (.ref (am 0)), some (.int (nI r)), some (.int (nI d)), some (.int (nI pg)), some (.int l), none] rfl (fun C => ?_)
  refine g_aload0 dX6_read_0 ?_
  refine g_iload1 dX6_read_1 ?_
  refine g_callS1 ct_isReader md_X6_isReader dX6_read_2 ml_X6_135 st_X6_isReader (RmOk.of (Nat.le_of_ble_eq_true rfl) (Nat.le_of_ble_eq_true rfl) (Nat.le_of_ble_eq_true rfl) (Nat.le_of_ble_eq_true rfl) (Nat.le_of_ble_eq_true rfl)) (kr_V ?_) kx_V
  refine g_if_eq_f (tgt := 12) dX6_read_5 (by decide) (bI_n.mpr hr) ?_
  refine g_iconst (v := 0) dX6_read_8 (by decide) ?_
  refine g_goto (tgt := 13) dX6_read_9 (by decide) ?_
  refine g_mput0 hM dX6_read_13 fl_X6_74 (fun w1 hM => ?_)
  refine g_aload0 dX6_read_16 ?_
  refine g_getf kc7 dX6_read_17 fl_X6_74 (by decide) hM.1 (show _ = some (Value.int (0)) from rfl) ?_
  refine g_if_ne_f (tgt := 98) dX6_read_20 (by decide) (by decide) ?_
  refine g_iload2 dX6_read_23 ?_
  refine g_iconst (v := 0) dX6_read_24 (by decide) ?_
  refine g_aload0 dX6_read_25 ?_
  refine g_getf kc7 dX6_read_26 fl_X6_107 (by decide) hM.1 (show _ = some (Value.int (nI (N 17))) from rfl) ?_
  refine g_iconst (v := 1) dX6_read_29 (by decide) ?_
  refine g_isub dX6_read_30 ?_
  refine g_callS3 ct_in md_X6_in dX6_read_31 ml_X6_81 st_X6_in (RmOk.of (Nat.le_of_ble_eq_true rfl) (Nat.le_of_ble_eq_true rfl) (Nat.le_of_ble_eq_true rfl) (Nat.le_of_ble_eq_true rfl) (Nat.le_of_ble_eq_true rfl)) (kr_V ?_) kx_V
  refine g_if_eq_f (tgt := 81) dX6_read_34 (by decide) (bI_n.mpr hd) ?_
  refine g_iload3 dX6_read_37 ?_
  refine g_iconst (v := 0) dX6_read_38 (by decide) ?_
  refine g_aload0 dX6_read_39 ?_
  refine g_getf kc7 dX6_read_40 fl_X6_43 (by decide) hM.1 rfl ?_
  refine g_iload2 dX6_read_43 ?_
  refine g_miald (k := 19) (n := 120) hM rfl (by decide) (fun _ => rfl) dX6_read_44 (by omega) (by decide) ?_
  rw [hln]
  refine g_iconst (v := 1) dX6_read_45 (by decide) ?_
  refine g_isub dX6_read_46 ?_
  refine g_callS3 ct_in md_X6_in dX6_read_47 ml_X6_81 st_X6_in (RmOk.of (Nat.le_of_ble_eq_true rfl) (Nat.le_of_ble_eq_true rfl) (Nat.le_of_ble_eq_true rfl) (Nat.le_of_ble_eq_true rfl) (Nat.le_of_ble_eq_true rfl)) (kr_V ?_) kx_V
  refine g_if_eq_f (tgt := 81) dX6_read_50 (by decide) (bI_n.mpr hpg) ?_
  refine g_iload4 dX6_read_53 ?_
  refine g_iconst (v := 0) dX6_read_55 (by decide) ?_
  refine g_aload0 dX6_read_56 ?_
  refine g_getf kc7 dX6_read_57 fl_X6_19 (by decide) hM.1 rfl ?_
  refine g_aload0 dX6_read_60 ?_
  refine g_getf kc7 dX6_read_61 fl_X6_40 (by decide) hM.1 rfl ?_
  refine g_iload2 dX6_read_64 ?_
  refine g_miald (k := 18) (n := 120) hM rfl (by decide) (fun _ => rfl) dX6_read_65 (by omega) (by decide) ?_
  rw [hf]
  refine g_iload3 dX6_read_66 ?_
  refine g_iadd dX6_read_67 ?_
  rw [nI_add]
  refine g_miald (k := 8) (n := 121) hM rfl (by decide) (fun _ => rfl) dX6_read_68 (by omega) (by decide) ?_
  rw [hs]
  refine g_iconst (v := 1) dX6_read_69 (by decide) ?_
  refine g_isub dX6_read_70 ?_
  refine g_callS3 ct_in md_X6_in dX6_read_71 ml_X6_81 st_X6_in (RmOk.of (Nat.le_of_ble_eq_true rfl) (Nat.le_of_ble_eq_true rfl) (Nat.le_of_ble_eq_true rfl) (Nat.le_of_ble_eq_true rfl) (Nat.le_of_ble_eq_true rfl)) (kr_V ?_) kx_V
  refine g_if_eq_t (tgt := 81) dX6_read_74 (by decide) (bI_0.mpr h) ?_
  refine g_iconst (v := 0) dX6_read_81 (by decide) ?_
  refine g_istore5 dX6_read_82 ?_
  refine g_aload0 dX6_read_84 ?_
  refine g_iload5 dX6_read_85 ?_
  refine g_if_eq_t (tgt := 94) dX6_read_87 (by decide) (by decide) ?_
  refine g_iconst (v := 2) dX6_read_94 (by decide) ?_
  refine g_mput0 hM dX6_read_95 fl_X6_74 (fun w1 hM => ?_)
  refine g_aload0 dX6_read_98 ?_
  refine g_getf kc7 dX6_read_99 fl_X6_74 (by decide) hM.1 (show _ = some (Value.int (2)) from rfl) ?_
  refine g_if_ne_t (tgt := 123) dX6_read_102 (by decide) (by decide) ?_
  refine g_aload0 dX6_read_123 ?_
  refine g_getf kc7 dX6_read_124 fl_X6_74 (by decide) hM.1 (show _ = some (Value.int (2)) from rfl) ?_
  refine g_if_le_f (tgt := 134) dX6_read_127 (by decide) (by decide) ?_
  refine g_iconst (v := 0) dX6_read_130 (by decide) ?_
  refine g_goto (tgt := 163) dX6_read_131 (by decide) ?_
  refine g_iret dX6_read_163 ?_ (Nat.le_of_ble_eq_true rfl) (Nat.le_of_ble_eq_true rfl)
  exact ⟨rfl, hM⟩

set_option maxRecDepth 100000 in
theorem mt_read_c {G : Gx} {w w0 : Wd} {am : Nat → Nat} {th : Int32} {N : Nat → Nat} {A : Nat → Nat → Int32} (hM : Mz G am w0 (tI th N) A w) {r : Nat} (hr : inb (nI r) 0 3 = true) {d ln f : Nat} (hd : inb (nI d) 0 (nI (N 17) - 1) = true) (hdn : d < 120) (hln : A 19 d = nI ln) {pg s : Nat} (hpg : inb (nI pg) 0 (nI ln - 1) = true) (hf : A 18 d = nI f) (hfp : f + pg < 121) (hs : A 8 (f + pg) = nI s) {l : Nat} (hl : inb (nI l) 0 (nI s - 1) = true) (hl8 : l < 8) (hr4 : r < 4) (h : seeb A r d = false) : Ct G yX6_read kw_X6_read rm_X6_read [.ref (am 0), .int (nI r), .int (nI d), .int (nI pg), .int (nI l)] w (PB (.int (0)) (Mz G am w0 (tI 3 N) A)) := by
  refine ct_intro RX6 "read" (by decide +kernel) rfl rfl rfl (Nat.le_of_ble_eq_true rfl) [some (.ref (am 0)), some (.int (nI r)), some (.int (nI d)), some (.int (nI pg)), some (.int (nI l)), none] rfl (fun C => ?_)
  refine g_aload0 dX6_read_0 ?_
  refine g_iload1 dX6_read_1 ?_
  refine g_callS1 ct_isReader md_X6_isReader dX6_read_2 ml_X6_135 st_X6_isReader (RmOk.of (Nat.le_of_ble_eq_true rfl) (Nat.le_of_ble_eq_true rfl) (Nat.le_of_ble_eq_true rfl) (Nat.le_of_ble_eq_true rfl) (Nat.le_of_ble_eq_true rfl)) (kr_V ?_) kx_V
  refine g_if_eq_f (tgt := 12) dX6_read_5 (by decide) (bI_n.mpr hr) ?_
  refine g_iconst (v := 0) dX6_read_8 (by decide) ?_
  refine g_goto (tgt := 13) dX6_read_9 (by decide) ?_
  refine g_mput0 hM dX6_read_13 fl_X6_74 (fun w1 hM => ?_)
  refine g_aload0 dX6_read_16 ?_
  refine g_getf kc7 dX6_read_17 fl_X6_74 (by decide) hM.1 (show _ = some (Value.int (0)) from rfl) ?_
  refine g_if_ne_f (tgt := 98) dX6_read_20 (by decide) (by decide) ?_
  refine g_iload2 dX6_read_23 ?_
  refine g_iconst (v := 0) dX6_read_24 (by decide) ?_
  refine g_aload0 dX6_read_25 ?_
  refine g_getf kc7 dX6_read_26 fl_X6_107 (by decide) hM.1 (show _ = some (Value.int (nI (N 17))) from rfl) ?_
  refine g_iconst (v := 1) dX6_read_29 (by decide) ?_
  refine g_isub dX6_read_30 ?_
  refine g_callS3 ct_in md_X6_in dX6_read_31 ml_X6_81 st_X6_in (RmOk.of (Nat.le_of_ble_eq_true rfl) (Nat.le_of_ble_eq_true rfl) (Nat.le_of_ble_eq_true rfl) (Nat.le_of_ble_eq_true rfl) (Nat.le_of_ble_eq_true rfl)) (kr_V ?_) kx_V
  refine g_if_eq_f (tgt := 81) dX6_read_34 (by decide) (bI_n.mpr hd) ?_
  refine g_iload3 dX6_read_37 ?_
  refine g_iconst (v := 0) dX6_read_38 (by decide) ?_
  refine g_aload0 dX6_read_39 ?_
  refine g_getf kc7 dX6_read_40 fl_X6_43 (by decide) hM.1 rfl ?_
  refine g_iload2 dX6_read_43 ?_
  refine g_miald (k := 19) (n := 120) hM rfl (by decide) (fun _ => rfl) dX6_read_44 (by omega) (by decide) ?_
  rw [hln]
  refine g_iconst (v := 1) dX6_read_45 (by decide) ?_
  refine g_isub dX6_read_46 ?_
  refine g_callS3 ct_in md_X6_in dX6_read_47 ml_X6_81 st_X6_in (RmOk.of (Nat.le_of_ble_eq_true rfl) (Nat.le_of_ble_eq_true rfl) (Nat.le_of_ble_eq_true rfl) (Nat.le_of_ble_eq_true rfl) (Nat.le_of_ble_eq_true rfl)) (kr_V ?_) kx_V
  refine g_if_eq_f (tgt := 81) dX6_read_50 (by decide) (bI_n.mpr hpg) ?_
  refine g_iload4 dX6_read_53 ?_
  refine g_iconst (v := 0) dX6_read_55 (by decide) ?_
  refine g_aload0 dX6_read_56 ?_
  refine g_getf kc7 dX6_read_57 fl_X6_19 (by decide) hM.1 rfl ?_
  refine g_aload0 dX6_read_60 ?_
  refine g_getf kc7 dX6_read_61 fl_X6_40 (by decide) hM.1 rfl ?_
  refine g_iload2 dX6_read_64 ?_
  refine g_miald (k := 18) (n := 120) hM rfl (by decide) (fun _ => rfl) dX6_read_65 (by omega) (by decide) ?_
  rw [hf]
  refine g_iload3 dX6_read_66 ?_
  refine g_iadd dX6_read_67 ?_
  rw [nI_add]
  refine g_miald (k := 8) (n := 121) hM rfl (by decide) (fun _ => rfl) dX6_read_68 (by omega) (by decide) ?_
  rw [hs]
  refine g_iconst (v := 1) dX6_read_69 (by decide) ?_
  refine g_isub dX6_read_70 ?_
  refine g_callS3 ct_in md_X6_in dX6_read_71 ml_X6_81 st_X6_in (RmOk.of (Nat.le_of_ble_eq_true rfl) (Nat.le_of_ble_eq_true rfl) (Nat.le_of_ble_eq_true rfl) (Nat.le_of_ble_eq_true rfl) (Nat.le_of_ble_eq_true rfl)) (kr_V ?_) kx_V
  refine g_if_eq_f (tgt := 81) dX6_read_74 (by decide) (bI_n.mpr hl) ?_
  refine g_iconst (v := 1) dX6_read_77 (by decide) ?_
  refine g_goto (tgt := 82) dX6_read_78 (by decide) ?_
  refine g_istore5 dX6_read_82 ?_
  refine g_aload0 dX6_read_84 ?_
  refine g_iload5 dX6_read_85 ?_
  refine g_if_eq_f (tgt := 94) dX6_read_87 (by decide) (by decide) ?_
  refine g_iconst (v := 0) dX6_read_90 (by decide) ?_
  refine g_goto (tgt := 95) dX6_read_91 (by decide) ?_
  refine g_mput0 hM dX6_read_95 fl_X6_74 (fun w1 hM => ?_)
  refine g_aload0 dX6_read_98 ?_
  refine g_getf kc7 dX6_read_99 fl_X6_74 (by decide) hM.1 (show _ = some (Value.int (0)) from rfl) ?_
  refine g_if_ne_f (tgt := 123) dX6_read_102 (by decide) (by decide) ?_
  refine g_aload0 dX6_read_105 ?_
  refine g_aload0 dX6_read_106 ?_
  refine g_iload1 dX6_read_107 ?_
  refine g_iload2 dX6_read_108 ?_
  refine g_callV2 kc7 (mt_sees hM hr4 hdn) md_X6_sees dX6_read_109 ml_X6_138 im_X6_sees se_X6_sees hM.1 (RmOk.of (Nat.le_of_ble_eq_true rfl) (Nat.le_of_ble_eq_true rfl) (Nat.le_of_ble_eq_true rfl) (Nat.le_of_ble_eq_true rfl) (Nat.le_of_ble_eq_true rfl)) (kr_V ?_) kx_V
  refine g_if_eq_t (tgt := 119) dX6_read_112 (by decide) (bI_0.mpr h) ?_
  refine g_iconst (v := 3) dX6_read_119 (by decide) ?_
  refine g_mput0 hM dX6_read_120 fl_X6_74 (fun w1 hM => ?_)
  refine g_aload0 dX6_read_123 ?_
  refine g_getf kc7 dX6_read_124 fl_X6_74 (by decide) hM.1 (show _ = some (Value.int (3)) from rfl) ?_
  refine g_if_le_f (tgt := 134) dX6_read_127 (by decide) (by decide) ?_
  refine g_iconst (v := 0) dX6_read_130 (by decide) ?_
  refine g_goto (tgt := 163) dX6_read_131 (by decide) ?_
  refine g_iret dX6_read_163 ?_ (Nat.le_of_ble_eq_true rfl) (Nat.le_of_ble_eq_true rfl)
  exact ⟨rfl, hM⟩

set_option maxRecDepth 100000 in
theorem mt_read_d {G : Gx} {w w0 : Wd} {am : Nat → Nat} {th : Int32} {N : Nat → Nat} {A : Nat → Nat → Int32} (hM : Mz G am w0 (tI th N) A w) {r : Nat} (hr : inb (nI r) 0 3 = true) {d ln f : Nat} (hd : inb (nI d) 0 (nI (N 17) - 1) = true) (hdn : d < 120) (hln : A 19 d = nI ln) {pg s : Nat} (hpg : inb (nI pg) 0 (nI ln - 1) = true) (hf : A 18 d = nI f) (hfp : f + pg < 121) (hs : A 8 (f + pg) = nI s) {l : Nat} (hl : inb (nI l) 0 (nI s - 1) = true) (hl8 : l < 8) (hr4 : r < 4) (h : seeb A r d = true) : Ct G yX6_read kw_X6_read rm_X6_read [.ref (am 0), .int (nI r), .int (nI d), .int (nI pg), .int (nI l)] w (PB (.int (if A 26 r = nI l then -1 else lno A (f + pg) l)) (Mz G am w0 (tI 0 N) A)) := by
  refine ct_intro RX6 "read" (by decide +kernel) rfl rfl rfl (Nat.le_of_ble_eq_true rfl) [some (.ref (am 0)), some (.int (nI r)), some (.int (nI d)), some (.int (nI pg)), some (.int (nI l)), none] rfl (fun C => ?_)
  refine g_aload0 dX6_read_0 ?_
  refine g_iload1 dX6_read_1 ?_
  refine g_callS1 ct_isReader md_X6_isReader dX6_read_2 ml_X6_135 st_X6_isReader (RmOk.of (Nat.le_of_ble_eq_true rfl) (Nat.le_of_ble_eq_true rfl) (Nat.le_of_ble_eq_true rfl) (Nat.le_of_ble_eq_true rfl) (Nat.le_of_ble_eq_true rfl)) (kr_V ?_) kx_V
  refine g_if_eq_f (tgt := 12) dX6_read_5 (by decide) (bI_n.mpr hr) ?_
  refine g_iconst (v := 0) dX6_read_8 (by decide) ?_
  refine g_goto (tgt := 13) dX6_read_9 (by decide) ?_
  refine g_mput0 hM dX6_read_13 fl_X6_74 (fun w1 hM => ?_)
  refine g_aload0 dX6_read_16 ?_
  refine g_getf kc7 dX6_read_17 fl_X6_74 (by decide) hM.1 (show _ = some (Value.int (0)) from rfl) ?_
  refine g_if_ne_f (tgt := 98) dX6_read_20 (by decide) (by decide) ?_
  refine g_iload2 dX6_read_23 ?_
  refine g_iconst (v := 0) dX6_read_24 (by decide) ?_
  refine g_aload0 dX6_read_25 ?_
  refine g_getf kc7 dX6_read_26 fl_X6_107 (by decide) hM.1 (show _ = some (Value.int (nI (N 17))) from rfl) ?_
  refine g_iconst (v := 1) dX6_read_29 (by decide) ?_
  refine g_isub dX6_read_30 ?_
  refine g_callS3 ct_in md_X6_in dX6_read_31 ml_X6_81 st_X6_in (RmOk.of (Nat.le_of_ble_eq_true rfl) (Nat.le_of_ble_eq_true rfl) (Nat.le_of_ble_eq_true rfl) (Nat.le_of_ble_eq_true rfl) (Nat.le_of_ble_eq_true rfl)) (kr_V ?_) kx_V
  refine g_if_eq_f (tgt := 81) dX6_read_34 (by decide) (bI_n.mpr hd) ?_
  refine g_iload3 dX6_read_37 ?_
  refine g_iconst (v := 0) dX6_read_38 (by decide) ?_
  refine g_aload0 dX6_read_39 ?_
  refine g_getf kc7 dX6_read_40 fl_X6_43 (by decide) hM.1 rfl ?_
  refine g_iload2 dX6_read_43 ?_
  refine g_miald (k := 19) (n := 120) hM rfl (by decide) (fun _ => rfl) dX6_read_44 (by omega) (by decide) ?_
  rw [hln]
  refine g_iconst (v := 1) dX6_read_45 (by decide) ?_
  refine g_isub dX6_read_46 ?_
  refine g_callS3 ct_in md_X6_in dX6_read_47 ml_X6_81 st_X6_in (RmOk.of (Nat.le_of_ble_eq_true rfl) (Nat.le_of_ble_eq_true rfl) (Nat.le_of_ble_eq_true rfl) (Nat.le_of_ble_eq_true rfl) (Nat.le_of_ble_eq_true rfl)) (kr_V ?_) kx_V
  refine g_if_eq_f (tgt := 81) dX6_read_50 (by decide) (bI_n.mpr hpg) ?_
  refine g_iload4 dX6_read_53 ?_
  refine g_iconst (v := 0) dX6_read_55 (by decide) ?_
  refine g_aload0 dX6_read_56 ?_
  refine g_getf kc7 dX6_read_57 fl_X6_19 (by decide) hM.1 rfl ?_
  refine g_aload0 dX6_read_60 ?_
  refine g_getf kc7 dX6_read_61 fl_X6_40 (by decide) hM.1 rfl ?_
  refine g_iload2 dX6_read_64 ?_
  refine g_miald (k := 18) (n := 120) hM rfl (by decide) (fun _ => rfl) dX6_read_65 (by omega) (by decide) ?_
  rw [hf]
  refine g_iload3 dX6_read_66 ?_
  refine g_iadd dX6_read_67 ?_
  rw [nI_add]
  refine g_miald (k := 8) (n := 121) hM rfl (by decide) (fun _ => rfl) dX6_read_68 (by omega) (by decide) ?_
  rw [hs]
  refine g_iconst (v := 1) dX6_read_69 (by decide) ?_
  refine g_isub dX6_read_70 ?_
  refine g_callS3 ct_in md_X6_in dX6_read_71 ml_X6_81 st_X6_in (RmOk.of (Nat.le_of_ble_eq_true rfl) (Nat.le_of_ble_eq_true rfl) (Nat.le_of_ble_eq_true rfl) (Nat.le_of_ble_eq_true rfl) (Nat.le_of_ble_eq_true rfl)) (kr_V ?_) kx_V
  refine g_if_eq_f (tgt := 81) dX6_read_74 (by decide) (bI_n.mpr hl) ?_
  refine g_iconst (v := 1) dX6_read_77 (by decide) ?_
  refine g_goto (tgt := 82) dX6_read_78 (by decide) ?_
  refine g_istore5 dX6_read_82 ?_
  refine g_aload0 dX6_read_84 ?_
  refine g_iload5 dX6_read_85 ?_
  refine g_if_eq_f (tgt := 94) dX6_read_87 (by decide) (by decide) ?_
  refine g_iconst (v := 0) dX6_read_90 (by decide) ?_
  refine g_goto (tgt := 95) dX6_read_91 (by decide) ?_
  refine g_mput0 hM dX6_read_95 fl_X6_74 (fun w1 hM => ?_)
  refine g_aload0 dX6_read_98 ?_
  refine g_getf kc7 dX6_read_99 fl_X6_74 (by decide) hM.1 (show _ = some (Value.int (0)) from rfl) ?_
  refine g_if_ne_f (tgt := 123) dX6_read_102 (by decide) (by decide) ?_
  refine g_aload0 dX6_read_105 ?_
  refine g_aload0 dX6_read_106 ?_
  refine g_iload1 dX6_read_107 ?_
  refine g_iload2 dX6_read_108 ?_
  refine g_callV2 kc7 (mt_sees hM hr4 hdn) md_X6_sees dX6_read_109 ml_X6_138 im_X6_sees se_X6_sees hM.1 (RmOk.of (Nat.le_of_ble_eq_true rfl) (Nat.le_of_ble_eq_true rfl) (Nat.le_of_ble_eq_true rfl) (Nat.le_of_ble_eq_true rfl) (Nat.le_of_ble_eq_true rfl)) (kr_V ?_) kx_V
  refine g_if_eq_f (tgt := 119) dX6_read_112 (by decide) (bI_n.mpr h) ?_
  refine g_iconst (v := 0) dX6_read_115 (by decide) ?_
  refine g_goto (tgt := 120) dX6_read_116 (by decide) ?_
  refine g_mput0 hM dX6_read_120 fl_X6_74 (fun w1 hM => ?_)
  refine g_aload0 dX6_read_123 ?_
  refine g_getf kc7 dX6_read_124 fl_X6_74 (by decide) hM.1 (show _ = some (Value.int (0)) from rfl) ?_
  refine g_if_le_t (tgt := 134) dX6_read_127 (by decide) (by decide) ?_
  refine g_aload0 dX6_read_134 ?_
  refine g_getf kc7 dX6_read_135 fl_X6_65 (by decide) hM.1 rfl ?_
  refine g_iload1 dX6_read_138 ?_
  refine g_miald (k := 26) (n := 4) hM rfl (by decide) (fun _ => rfl) dX6_read_139 (by omega) (by decide) ?_
  refine g_iload4 dX6_read_140 ?_
  refine g_icmp_ne (tgt := 149) dX6_read_142 (by decide) (fun h142 => ?_) (fun h142 => ?_)
  · skip
    refine g_aload0 dX6_read_149 ?_
    refine g_aload0 dX6_read_150 ?_
    refine g_getf kc7 dX6_read_151 fl_X6_40 (by decide) hM.1 rfl ?_
    refine g_iload2 dX6_read_154 ?_
    refine g_miald (k := 18) (n := 120) hM rfl (by decide) (fun _ => rfl) dX6_read_155 (by omega) (by decide) ?_
    rw [hf]
    refine g_iload3 dX6_read_156 ?_
    skip
    refine g_iadd dX6_read_157 ?_
    rw [nI_add]
    refine g_iload4 dX6_read_158 ?_
    refine g_callV2 kc7 (mt_lineOf hM hfp hl8) md_X6_lineOf dX6_read_160 ml_X6_103 im_X6_lineOf se_X6_lineOf hM.1 (RmOk.of (Nat.le_of_ble_eq_true rfl) (Nat.le_of_ble_eq_true rfl) (Nat.le_of_ble_eq_true rfl) (Nat.le_of_ble_eq_true rfl) (Nat.le_of_ble_eq_true rfl)) (kr_V ?_) kx_V
    refine g_iret dX6_read_163 ?_ (Nat.le_of_ble_eq_true rfl) (Nat.le_of_ble_eq_true rfl)
    first
      | exact ⟨by rw [if_pos h142], hM⟩
      | exact ⟨by rw [if_neg h142], hM⟩
  · skip
    refine g_iconst (v := (-1)) dX6_read_145 (by decide) ?_
    refine g_goto (tgt := 163) dX6_read_146 (by decide) ?_
    refine g_iret dX6_read_163 ?_ (Nat.le_of_ble_eq_true rfl) (Nat.le_of_ble_eq_true rfl)
    first
      | exact ⟨by rw [if_pos h142], hM⟩
      | exact ⟨by rw [if_neg h142], hM⟩

/-- whether the document is kept by its account -/
def stB (A : Nat → Nat → Int32) (d : Nat) : Bool := !decide (A 20 d = -1) && !decide (A 28 (A 20 d).toNatClampNeg = 0)
/-- whether the document goes on the day dy -/
def clB (A : Nat → Nat → Int32) (dy : Int32) (d : Nat) : Bool := decide (A 23 d = 0) && (!stB A d && !decide (dy ≤ A 22 d + A 27 (A 21 d).toNatClampNeg))
/-- the first i documents gone through -/
def clA (A : Nat → Nat → Int32) (dy : Int32) (i : Nat) : Nat → Nat → Int32 := fun j => if j = 23 then (fun q => if q < i ∧ clB A dy q = true then 1 else A 23 q) else A j
def cnB (f : Nat → Bool) : Nat → Nat
  | 0 => 0
  | n + 1 => cnB f n + (if f n = true then 1 else 0)
theorem cnB_le (f : Nat → Bool) : ∀ n, cnB f n ≤ n
  | 0 => Nat.le_refl _
  | n + 1 => by
    have h := cnB_le f n
    show cnB f n + (if f n = true then 1 else 0) ≤ n + 1
    split <;> omega
theorem clA_n {A : Nat → Nat → Int32} {dy : Int32} {i j : Nat} (h : j ≠ 23) : clA A dy i j = A j := if_neg h
theorem clA_0 {A : Nat → Nat → Int32} {dy : Int32} : clA A dy 0 = A := by
  funext j q
  unfold clA
  by_cases h : j = 23
  · rw [if_pos h, h]
    show (if _ then _ else _) = _
    rw [if_neg (by omega)]
  · rw [if_neg h]
theorem clA_at {A : Nat → Nat → Int32} {dy : Int32} {i : Nat} : clA A dy i 23 i = A 23 i := by
  unfold clA
  rw [if_pos rfl]
  show (if _ then _ else _) = _
  rw [if_neg (by omega)]
theorem clA_t {A : Nat → Nat → Int32} {dy : Int32} {i : Nat} (h : clB A dy i = true) : updA (clA A dy i) 23 i 1 = clA A dy (i + 1) := by
  funext j q
  unfold updA
  by_cases hj : j = 23
  · subst hj
    rw [if_pos rfl]
    unfold upd clA
    rw [if_pos rfl, if_pos rfl]
    show (if q = i then (1 : Int32) else (if q < i ∧ clB A dy q = true then 1 else A 23 q)) = (if q < i + 1 ∧ clB A dy q = true then 1 else A 23 q)
    by_cases hq : q = i
    · rw [if_pos hq, if_pos ⟨by omega, by rw [hq]; exact h⟩]
    · rw [if_neg hq]
      by_cases h2 : q < i ∧ clB A dy q = true
      · rw [if_pos h2, if_pos ⟨by omega, h2.2⟩]
      · rw [if_neg h2, if_neg (fun z => h2 ⟨by omega, z.2⟩)]
  · rw [if_neg hj, clA_n hj, clA_n hj]
theorem clA_f {A : Nat → Nat → Int32} {dy : Int32} {i : Nat} (h : clB A dy i = false) : clA A dy i = clA A dy (i + 1) := by
  funext j q
  unfold clA
  by_cases hj : j = 23
  · rw [if_pos hj, if_pos hj]
    show (if _ then _ else _) = (if _ then _ else _)
    by_cases h2 : q < i ∧ clB A dy q = true
    · rw [if_pos h2, if_pos ⟨by omega, h2.2⟩]
    · rw [if_neg h2, if_neg (fun z => by
        by_cases hq : q = i
        · rw [hq, h] at z; exact absurd z.2 (by decide)
        · exact h2 ⟨by omega, z.2⟩)]
  · rw [if_neg hj, if_neg hj]
/-- what the documents keep to -/
def WfD (N : Nat → Nat) (A : Nat → Nat → Int32) : Prop := ∀ d, d < N 17 → (A 20 d = -1 ∨ ∃ a, a < 100 ∧ A 20 d = nI a) ∧ (∃ k, k < 4 ∧ A 21 d = nI k)

abbrev rm_X6_clear : Room := { frames := 0, cells := 0, slots := 0, locals := 0 }

set_option maxRecDepth 100000 in
theorem lp_clear {G : Gx} {w0 : Wd} {am : Nat → Nat} {N : Nat → Nat} {A : Nat → Nat → Int32} (hd : N 17 ≤ 120) (hW : WfD N A) (C : Cx) : ∀ (M i : Nat), N 17 - i < M → ∀ (w : Wd) (y : Option Value), i ≤ N 17 → Mz G am w0 (tI 0 N) (clA A (nI (N 1)) i) w →
    Go G rm_X6_clear cX6_clear RX6 ((Option.some FieldType.int), "clear", []) C (QP G rm_X6_clear (PB (.int (nI (cnB (clB A (nI (N 1))) (N 17)))) (Mz G am w0 (tI 0 N) (clA A (nI (N 1)) (N 17)))) C) 9 [some (.ref (am 0)), some (.int (nI (cnB (clB A (nI (N 1))) i))), some (.int (nI i)), y] [] w 0 0 := by
  intro M
  induction M with
  | zero => intro i hM9; exact absurd hM9 (Nat.not_lt_zero _)
  | succ M ih =>
    intro i hi9 w y hi hM
    refine g_iload2 dX6_clear_9 ?_
    refine g_aload0 dX6_clear_10 ?_
    refine g_getf kc7 dX6_clear_11 fl_X6_107 (by decide) hM.1 (show _ = some (Value.int (nI (N 17))) from rfl) ?_
    refine g_icmp_ge (tgt := 101) dX6_clear_14 (by decide) (fun h14 => ?_) (fun h14 => ?_)
    · skip
      have hin : i = N 17 := Nat.le_antisymm hi (idx_ge (by omega) (by omega) h14)
      rw [hin] at hM
      refine g_iload1 dX6_clear_101 ?_
      refine g_iret dX6_clear_102 ?_ (Nat.le_of_ble_eq_true rfl) (Nat.le_of_ble_eq_true rfl)
      exact ⟨by rw [hin], hM⟩
    · skip
      have hlt : i < N 17 := idx_lt (by omega) (by omega) h14
      obtain ⟨hac, k, hk4, hkd⟩ := hW i hlt
      have hcn := cnB_le (clB A (nI (N 1))) i
      refine g_aload0 dX6_clear_17 ?_
      refine g_getf kc7 dX6_clear_18 fl_X6_46 (by decide) hM.1 rfl ?_
      refine g_iload2 dX6_clear_21 ?_
      refine g_miald (k := 20) (n := 120) hM rfl (by decide) (fun _ => rfl) dX6_clear_22 (by omega) (by decide) ?_
      rw [clA_n (by decide)]
      refine g_iconst (v := (-1)) dX6_clear_23 (by decide) ?_
      refine g_icmp_eq (tgt := 45) dX6_clear_24 (by decide) (fun h24 => ?_) (fun h24 => ?_)
      · skip
        refine g_iconst (v := 0) dX6_clear_45 (by decide) ?_
        refine g_istore3 dX6_clear_46 ?_
        refine g_aload0 dX6_clear_47 ?_
        refine g_getf kc7 dX6_clear_48 fl_X6_55 (by decide) hM.1 rfl ?_
        refine g_iload2 dX6_clear_51 ?_
        refine g_mzald (k := 23) (n := 120) hM rfl (by decide) (fun _ => rfl) dX6_clear_52 (by omega) (by decide) ?_
        rw [clA_at]
        refine g_if_ne (tgt := 95) dX6_clear_53 (by decide) (fun h53 => ?_) (fun h53 => ?_)
        · skip
          refine g_iinc2 (v' := (nI (i + 1))) dX6_clear_95 (nI_1 i) ?_
          refine g_goto (tgt := 9) dX6_clear_98 (by decide) ?_
          first
            | (have hP : clB A (nI (N 1)) i = true := by
                 unfold clB
                 rw [decide_eq_true h53, hkd, nI_clamp (by omega), decide_eq_false h82]
                 first
                   | (rw [hst, decide_eq_true h38]; rfl)
                   | (rw [show stB A i = false by unfold stB; rw [decide_eq_true h24]; rfl]; rfl)
               rw [clA_t hP] at hM
               have e : cnB (clB A (nI (N 1))) (i + 1) = cnB (clB A (nI (N 1))) i + 1 := by
                 show _ + (if _ then _ else _) = _
                 rw [if_pos hP]
               have h9 := ih (i + 1) (by omega) w1 (some (.int 0)) (by omega) hM
               rw [e] at h9
               exact h9)
            | (have hP : clB A (nI (N 1)) i = false := by
                 unfold clB
                 first
                   | (rw [decide_eq_false h53]; rfl)
                   | (rw [hst, decide_eq_false h38]; simp)
                   | (rw [hkd, nI_clamp (by omega), decide_eq_true h82]; simp)
               rw [clA_f hP] at hM
               have e : cnB (clB A (nI (N 1))) (i + 1) = cnB (clB A (nI (N 1))) i := by
                 show _ + (if _ then _ else _) = _
                 rw [if_neg (by rw [hP]; decide)]
                 rfl
               first
                 | (have h9 := ih (i + 1) (by omega) _ (some (.int 0)) (by omega) hM
                    rw [e] at h9
                    exact h9)
                 | (have h9 := ih (i + 1) (by omega) _ (some (.int 1)) (by omega) hM
                    rw [e] at h9
                    exact h9))
        · skip
          refine g_iload3 dX6_clear_56 ?_
          refine g_if_ne_f (tgt := 95) dX6_clear_57 (by decide) (by decide) ?_
          refine g_aload0 dX6_clear_60 ?_
          refine g_getf kc7 dX6_clear_61 fl_X6_85 (by decide) hM.1 (show _ = some (Value.int (nI (N 1))) from rfl) ?_
          refine g_aload0 dX6_clear_64 ?_
          refine g_getf kc7 dX6_clear_65 fl_X6_52 (by decide) hM.1 rfl ?_
          refine g_iload2 dX6_clear_68 ?_
          skip
          refine g_miald (k := 22) (n := 120) hM rfl (by decide) (fun _ => rfl) dX6_clear_69 (by omega) (by decide) ?_
          rw [clA_n (by decide)]
          refine g_aload0 dX6_clear_70 ?_
          refine g_getf kc7 dX6_clear_71 fl_X6_68 (by decide) hM.1 rfl ?_
          refine g_aload0 dX6_clear_74 ?_
          refine g_getf kc7 dX6_clear_75 fl_X6_49 (by decide) hM.1 rfl ?_
          refine g_iload2 dX6_clear_78 ?_
          refine g_miald (k := 21) (n := 120) hM rfl (by decide) (fun _ => rfl) dX6_clear_79 (by omega) (by decide) ?_
          rw [clA_n (by decide), hkd]
          refine g_miald (k := 27) (n := 4) hM rfl (by decide) (fun _ => rfl) dX6_clear_80 (by omega) (by decide) ?_
          rw [clA_n (by decide)]
          refine g_iadd dX6_clear_81 ?_
          refine g_icmp_le (tgt := 95) dX6_clear_82 (by decide) (fun h82 => ?_) (fun h82 => ?_)
          · skip
            refine g_iinc2 (v' := (nI (i + 1))) dX6_clear_95 (nI_1 i) ?_
            refine g_goto (tgt := 9) dX6_clear_98 (by decide) ?_
            first
              | (have hP : clB A (nI (N 1)) i = true := by
                   unfold clB
                   rw [decide_eq_true h53, hkd, nI_clamp (by omega), decide_eq_false h82]
                   first
                     | (rw [hst, decide_eq_true h38]; rfl)
                     | (rw [show stB A i = false by unfold stB; rw [decide_eq_true h24]; rfl]; rfl)
                 rw [clA_t hP] at hM
                 have e : cnB (clB A (nI (N 1))) (i + 1) = cnB (clB A (nI (N 1))) i + 1 := by
                   show _ + (if _ then _ else _) = _
                   rw [if_pos hP]
                 have h9 := ih (i + 1) (by omega) w1 (some (.int 0)) (by omega) hM
                 rw [e] at h9
                 exact h9)
              | (have hP : clB A (nI (N 1)) i = false := by
                   unfold clB
                   first
                     | (rw [decide_eq_false h53]; rfl)
                     | (rw [hst, decide_eq_false h38]; simp)
                     | (rw [hkd, nI_clamp (by omega), decide_eq_true h82]; simp)
                 rw [clA_f hP] at hM
                 have e : cnB (clB A (nI (N 1))) (i + 1) = cnB (clB A (nI (N 1))) i := by
                   show _ + (if _ then _ else _) = _
                   rw [if_neg (by rw [hP]; decide)]
                   rfl
                 first
                   | (have h9 := ih (i + 1) (by omega) _ (some (.int 0)) (by omega) hM
                      rw [e] at h9
                      exact h9)
                   | (have h9 := ih (i + 1) (by omega) _ (some (.int 1)) (by omega) hM
                      rw [e] at h9
                      exact h9))
          · skip
            refine g_aload0 dX6_clear_85 ?_
            refine g_getf kc7 dX6_clear_86 fl_X6_55 (by decide) hM.1 rfl ?_
            refine g_iload2 dX6_clear_89 ?_
            refine g_iconst (v := 1) dX6_clear_90 (by decide) ?_
            refine g_mzast (k := 23) (n := 120) hM rfl (by decide) (fun _ => rfl) dX6_clear_91 (by omega) (by decide) rfl (fun w1 hM => ?_)
            refine g_iinc1 (v' := (nI (cnB (clB A (nI (N 1))) i + 1))) dX6_clear_92 (nI_1 _) ?_
            refine g_iinc2 (v' := (nI (i + 1))) dX6_clear_95 (nI_1 i) ?_
            refine g_goto (tgt := 9) dX6_clear_98 (by decide) ?_
            first
              | (have hP : clB A (nI (N 1)) i = true := by
                   unfold clB
                   rw [decide_eq_true h53, hkd, nI_clamp (by omega), decide_eq_false h82]
                   first
                     | (rw [hst, decide_eq_true h38]; rfl)
                     | (rw [show stB A i = false by unfold stB; rw [decide_eq_true h24]; rfl]; rfl)
                 rw [clA_t hP] at hM
                 have e : cnB (clB A (nI (N 1))) (i + 1) = cnB (clB A (nI (N 1))) i + 1 := by
                   show _ + (if _ then _ else _) = _
                   rw [if_pos hP]
                 have h9 := ih (i + 1) (by omega) w1 (some (.int 0)) (by omega) hM
                 rw [e] at h9
                 exact h9)
              | (have hP : clB A (nI (N 1)) i = false := by
                   unfold clB
                   first
                     | (rw [decide_eq_false h53]; rfl)
                     | (rw [hst, decide_eq_false h38]; simp)
                     | (rw [hkd, nI_clamp (by omega), decide_eq_true h82]; simp)
                 rw [clA_f hP] at hM
                 have e : cnB (clB A (nI (N 1))) (i + 1) = cnB (clB A (nI (N 1))) i := by
                   show _ + (if _ then _ else _) = _
                   rw [if_neg (by rw [hP]; decide)]
                   rfl
                 first
                   | (have h9 := ih (i + 1) (by omega) _ (some (.int 0)) (by omega) hM
                      rw [e] at h9
                      exact h9)
                   | (have h9 := ih (i + 1) (by omega) _ (some (.int 1)) (by omega) hM
                      rw [e] at h9
                      exact h9))
      · skip
        obtain ⟨a, ha, had⟩ := hac.resolve_left h24
        have hst : stB A i = !decide (A 28 a = 0) := by unfold stB; rw [decide_eq_false h24, had, nI_clamp (by omega)]; rfl
        refine g_aload0 dX6_clear_27 ?_
        refine g_getf kc7 dX6_clear_28 fl_X6_71 (by decide) hM.1 rfl ?_
        refine g_aload0 dX6_clear_31 ?_
        refine g_getf kc7 dX6_clear_32 fl_X6_46 (by decide) hM.1 rfl ?_
        refine g_iload2 dX6_clear_35 ?_
        refine g_miald (k := 20) (n := 120) hM rfl (by decide) (fun _ => rfl) dX6_clear_36 (by omega) (by decide) ?_
        rw [clA_n (by decide), had]
        refine g_mzald (k := 28) (n := 100) hM rfl (by decide) (fun _ => rfl) dX6_clear_37 (by omega) (by decide) ?_
        rw [clA_n (by decide)]
        refine g_if_eq (tgt := 45) dX6_clear_38 (by decide) (fun h38 => ?_) (fun h38 => ?_)
        · skip
          refine g_iconst (v := 0) dX6_clear_45 (by decide) ?_
          refine g_istore3 dX6_clear_46 ?_
          refine g_aload0 dX6_clear_47 ?_
          refine g_getf kc7 dX6_clear_48 fl_X6_55 (by decide) hM.1 rfl ?_
          refine g_iload2 dX6_clear_51 ?_
          refine g_mzald (k := 23) (n := 120) hM rfl (by decide) (fun _ => rfl) dX6_clear_52 (by omega) (by decide) ?_
          rw [clA_at]
          refine g_if_ne (tgt := 95) dX6_clear_53 (by decide) (fun h53 => ?_) (fun h53 => ?_)
          · skip
            refine g_iinc2 (v' := (nI (i + 1))) dX6_clear_95 (nI_1 i) ?_
            refine g_goto (tgt := 9) dX6_clear_98 (by decide) ?_
            first
              | (have hP : clB A (nI (N 1)) i = true := by
                   unfold clB
                   rw [decide_eq_true h53, hkd, nI_clamp (by omega), decide_eq_false h82]
                   first
                     | (rw [hst, decide_eq_true h38]; rfl)
                     | (rw [show stB A i = false by unfold stB; rw [decide_eq_true h24]; rfl]; rfl)
                 rw [clA_t hP] at hM
                 have e : cnB (clB A (nI (N 1))) (i + 1) = cnB (clB A (nI (N 1))) i + 1 := by
                   show _ + (if _ then _ else _) = _
                   rw [if_pos hP]
                 have h9 := ih (i + 1) (by omega) w1 (some (.int 0)) (by omega) hM
                 rw [e] at h9
                 exact h9)
              | (have hP : clB A (nI (N 1)) i = false := by
                   unfold clB
                   first
                     | (rw [decide_eq_false h53]; rfl)
                     | (rw [hst, decide_eq_false h38]; simp)
                     | (rw [hkd, nI_clamp (by omega), decide_eq_true h82]; simp)
                 rw [clA_f hP] at hM
                 have e : cnB (clB A (nI (N 1))) (i + 1) = cnB (clB A (nI (N 1))) i := by
                   show _ + (if _ then _ else _) = _
                   rw [if_neg (by rw [hP]; decide)]
                   rfl
                 first
                   | (have h9 := ih (i + 1) (by omega) _ (some (.int 0)) (by omega) hM
                      rw [e] at h9
                      exact h9)
                   | (have h9 := ih (i + 1) (by omega) _ (some (.int 1)) (by omega) hM
                      rw [e] at h9
                      exact h9))
          · skip
            refine g_iload3 dX6_clear_56 ?_
            refine g_if_ne_f (tgt := 95) dX6_clear_57 (by decide) (by decide) ?_
            refine g_aload0 dX6_clear_60 ?_
            refine g_getf kc7 dX6_clear_61 fl_X6_85 (by decide) hM.1 (show _ = some (Value.int (nI (N 1))) from rfl) ?_
            refine g_aload0 dX6_clear_64 ?_
            refine g_getf kc7 dX6_clear_65 fl_X6_52 (by decide) hM.1 rfl ?_
            refine g_iload2 dX6_clear_68 ?_
            skip
            refine g_miald (k := 22) (n := 120) hM rfl (by decide) (fun _ => rfl) dX6_clear_69 (by omega) (by decide) ?_
            rw [clA_n (by decide)]
            refine g_aload0 dX6_clear_70 ?_
            refine g_getf kc7 dX6_clear_71 fl_X6_68 (by decide) hM.1 rfl ?_
            refine g_aload0 dX6_clear_74 ?_
            refine g_getf kc7 dX6_clear_75 fl_X6_49 (by decide) hM.1 rfl ?_
            refine g_iload2 dX6_clear_78 ?_
            refine g_miald (k := 21) (n := 120) hM rfl (by decide) (fun _ => rfl) dX6_clear_79 (by omega) (by decide) ?_
            rw [clA_n (by decide), hkd]
            refine g_miald (k := 27) (n := 4) hM rfl (by decide) (fun _ => rfl) dX6_clear_80 (by omega) (by decide) ?_
            rw [clA_n (by decide)]
            refine g_iadd dX6_clear_81 ?_
            refine g_icmp_le (tgt := 95) dX6_clear_82 (by decide) (fun h82 => ?_) (fun h82 => ?_)
            · skip
              refine g_iinc2 (v' := (nI (i + 1))) dX6_clear_95 (nI_1 i) ?_
              refine g_goto (tgt := 9) dX6_clear_98 (by decide) ?_
              first
                | (have hP : clB A (nI (N 1)) i = true := by
                     unfold clB
                     rw [decide_eq_true h53, hkd, nI_clamp (by omega), decide_eq_false h82]
                     first
                       | (rw [hst, decide_eq_true h38]; rfl)
                       | (rw [show stB A i = false by unfold stB; rw [decide_eq_true h24]; rfl]; rfl)
                   rw [clA_t hP] at hM
                   have e : cnB (clB A (nI (N 1))) (i + 1) = cnB (clB A (nI (N 1))) i + 1 := by
                     show _ + (if _ then _ else _) = _
                     rw [if_pos hP]
                   have h9 := ih (i + 1) (by omega) w1 (some (.int 0)) (by omega) hM
                   rw [e] at h9
                   exact h9)
                | (have hP : clB A (nI (N 1)) i = false := by
                     unfold clB
                     first
                       | (rw [decide_eq_false h53]; rfl)
                       | (rw [hst, decide_eq_false h38]; simp)
                       | (rw [hkd, nI_clamp (by omega), decide_eq_true h82]; simp)
                   rw [clA_f hP] at hM
                   have e : cnB (clB A (nI (N 1))) (i + 1) = cnB (clB A (nI (N 1))) i := by
                     show _ + (if _ then _ else _) = _
                     rw [if_neg (by rw [hP]; decide)]
                     rfl
                   first
                     | (have h9 := ih (i + 1) (by omega) _ (some (.int 0)) (by omega) hM
                        rw [e] at h9
                        exact h9)
                     | (have h9 := ih (i + 1) (by omega) _ (some (.int 1)) (by omega) hM
                        rw [e] at h9
                        exact h9))
            · skip
              refine g_aload0 dX6_clear_85 ?_
              refine g_getf kc7 dX6_clear_86 fl_X6_55 (by decide) hM.1 rfl ?_
              refine g_iload2 dX6_clear_89 ?_
              refine g_iconst (v := 1) dX6_clear_90 (by decide) ?_
              refine g_mzast (k := 23) (n := 120) hM rfl (by decide) (fun _ => rfl) dX6_clear_91 (by omega) (by decide) rfl (fun w1 hM => ?_)
              refine g_iinc1 (v' := (nI (cnB (clB A (nI (N 1))) i + 1))) dX6_clear_92 (nI_1 _) ?_
              refine g_iinc2 (v' := (nI (i + 1))) dX6_clear_95 (nI_1 i) ?_
              refine g_goto (tgt := 9) dX6_clear_98 (by decide) ?_
              first
                | (have hP : clB A (nI (N 1)) i = true := by
                     unfold clB
                     rw [decide_eq_true h53, hkd, nI_clamp (by omega), decide_eq_false h82]
                     first
                       | (rw [hst, decide_eq_true h38]; rfl)
                       | (rw [show stB A i = false by unfold stB; rw [decide_eq_true h24]; rfl]; rfl)
                   rw [clA_t hP] at hM
                   have e : cnB (clB A (nI (N 1))) (i + 1) = cnB (clB A (nI (N 1))) i + 1 := by
                     show _ + (if _ then _ else _) = _
                     rw [if_pos hP]
                   have h9 := ih (i + 1) (by omega) w1 (some (.int 0)) (by omega) hM
                   rw [e] at h9
                   exact h9)
                | (have hP : clB A (nI (N 1)) i = false := by
                     unfold clB
                     first
                       | (rw [decide_eq_false h53]; rfl)
                       | (rw [hst, decide_eq_false h38]; simp)
                       | (rw [hkd, nI_clamp (by omega), decide_eq_true h82]; simp)
                   rw [clA_f hP] at hM
                   have e : cnB (clB A (nI (N 1))) (i + 1) = cnB (clB A (nI (N 1))) i := by
                     show _ + (if _ then _ else _) = _
                     rw [if_neg (by rw [hP]; decide)]
                     rfl
                   first
                     | (have h9 := ih (i + 1) (by omega) _ (some (.int 0)) (by omega) hM
                        rw [e] at h9
                        exact h9)
                     | (have h9 := ih (i + 1) (by omega) _ (some (.int 1)) (by omega) hM
                        rw [e] at h9
                        exact h9))
        · skip
          refine g_iconst (v := 1) dX6_clear_41 (by decide) ?_
          refine g_goto (tgt := 46) dX6_clear_42 (by decide) ?_
          refine g_istore3 dX6_clear_46 ?_
          refine g_aload0 dX6_clear_47 ?_
          refine g_getf kc7 dX6_clear_48 fl_X6_55 (by decide) hM.1 rfl ?_
          refine g_iload2 dX6_clear_51 ?_
          refine g_mzald (k := 23) (n := 120) hM rfl (by decide) (fun _ => rfl) dX6_clear_52 (by omega) (by decide) ?_
          rw [clA_at]
          refine g_if_ne (tgt := 95) dX6_clear_53 (by decide) (fun h53 => ?_) (fun h53 => ?_)
          · skip
            refine g_iinc2 (v' := (nI (i + 1))) dX6_clear_95 (nI_1 i) ?_
            refine g_goto (tgt := 9) dX6_clear_98 (by decide) ?_
            first
              | (have hP : clB A (nI (N 1)) i = true := by
                   unfold clB
                   rw [decide_eq_true h53, hkd, nI_clamp (by omega), decide_eq_false h82]
                   first
                     | (rw [hst, decide_eq_true h38]; rfl)
                     | (rw [show stB A i = false by unfold stB; rw [decide_eq_true h24]; rfl]; rfl)
                 rw [clA_t hP] at hM
                 have e : cnB (clB A (nI (N 1))) (i + 1) = cnB (clB A (nI (N 1))) i + 1 := by
                   show _ + (if _ then _ else _) = _
                   rw [if_pos hP]
                 have h9 := ih (i + 1) (by omega) w1 (some (.int 0)) (by omega) hM
                 rw [e] at h9
                 exact h9)
              | (have hP : clB A (nI (N 1)) i = false := by
                   unfold clB
                   first
                     | (rw [decide_eq_false h53]; rfl)
                     | (rw [hst, decide_eq_false h38]; simp)
                     | (rw [hkd, nI_clamp (by omega), decide_eq_true h82]; simp)
                 rw [clA_f hP] at hM
                 have e : cnB (clB A (nI (N 1))) (i + 1) = cnB (clB A (nI (N 1))) i := by
                   show _ + (if _ then _ else _) = _
                   rw [if_neg (by rw [hP]; decide)]
                   rfl
                 first
                   | (have h9 := ih (i + 1) (by omega) _ (some (.int 0)) (by omega) hM
                      rw [e] at h9
                      exact h9)
                   | (have h9 := ih (i + 1) (by omega) _ (some (.int 1)) (by omega) hM
                      rw [e] at h9
                      exact h9))
          · skip
            refine g_iload3 dX6_clear_56 ?_
            refine g_if_ne_t (tgt := 95) dX6_clear_57 (by decide) (by decide) ?_
            refine g_iinc2 (v' := (nI (i + 1))) dX6_clear_95 (nI_1 i) ?_
            refine g_goto (tgt := 9) dX6_clear_98 (by decide) ?_
            first
              | (have hP : clB A (nI (N 1)) i = true := by
                   unfold clB
                   rw [decide_eq_true h53, hkd, nI_clamp (by omega), decide_eq_false h82]
                   first
                     | (rw [hst, decide_eq_true h38]; rfl)
                     | (rw [show stB A i = false by unfold stB; rw [decide_eq_true h24]; rfl]; rfl)
                 rw [clA_t hP] at hM
                 have e : cnB (clB A (nI (N 1))) (i + 1) = cnB (clB A (nI (N 1))) i + 1 := by
                   show _ + (if _ then _ else _) = _
                   rw [if_pos hP]
                 have h9 := ih (i + 1) (by omega) w1 (some (.int 0)) (by omega) hM
                 rw [e] at h9
                 exact h9)
              | (have hP : clB A (nI (N 1)) i = false := by
                   unfold clB
                   first
                     | (rw [decide_eq_false h53]; rfl)
                     | (rw [hst, decide_eq_false h38]; simp)
                     | (rw [hkd, nI_clamp (by omega), decide_eq_true h82]; simp)
                 rw [clA_f hP] at hM
                 have e : cnB (clB A (nI (N 1))) (i + 1) = cnB (clB A (nI (N 1))) i := by
                   show _ + (if _ then _ else _) = _
                   rw [if_neg (by rw [hP]; decide)]
                   rfl
                 first
                   | (have h9 := ih (i + 1) (by omega) _ (some (.int 0)) (by omega) hM
                      rw [e] at h9
                      exact h9)
                   | (have h9 := ih (i + 1) (by omega) _ (some (.int 1)) (by omega) hM
                      rw [e] at h9
                      exact h9))

set_option maxRecDepth 100000 in
theorem mt_clear {G : Gx} {w w0 : Wd} {am : Nat → Nat} {th : Int32} {N : Nat → Nat} {A : Nat → Nat → Int32} (hM : Mz G am w0 (tI th N) A w) (hd : N 17 ≤ 120) (hW : WfD N A) : Ct G yX6_clear kw_X6_clear rm_X6_clear [.ref (am 0)] w (PB (.int (nI (cnB (clB A (nI (N 1))) (N 17)))) (Mz G am w0 (tI 0 N) (clA A (nI (N 1)) (N 17)))) := by
  refine ct_intro RX6 "clear" (by decide +kernel) rfl rfl rfl (Nat.le_of_ble_eq_true rfl) [some (.ref (am 0)), none, none, none] rfl (fun C => ?_)
  refine g_aload0 dX6_clear_0 ?_
  refine g_iconst (v := 0) dX6_clear_1 (by decide) ?_
  refine g_mput0 hM dX6_clear_2 fl_X6_74 (fun w1 hM => ?_)
  refine g_iconst (v := 0) dX6_clear_5 (by decide) ?_
  refine g_istore1 dX6_clear_6 ?_
  refine g_iconst (v := 0) dX6_clear_7 (by decide) ?_
  refine g_istore2 dX6_clear_8 ?_
  exact lp_clear hd hW C (N 17 + 1) 0 (by omega) _ none (Nat.zero_le _) (hM.to rfl clA_0.symm)

def buP (A : Nat → Nat → Int32) (r : Nat) (ac : Int32) (d : Nat) : Bool := seeb A r d && decide (A 20 d = ac)
def buS (A : Nat → Nat → Int32) (r : Nat) (ac : Int32) : Nat → Int32
  | 0 => 0
  | n + 1 => buS A r ac n + (if buP A r ac n = true then A 19 n else 0)

abbrev rm_X6_bundle : Room := { frames := 2, cells := 0, slots := 0, locals := 45 }

set_option maxRecDepth 100000 in
theorem mt_bundle_a1 {G : Gx} {w w0 : Wd} {am : Nat → Nat} {th : Int32} {N : Nat → Nat} {A : Nat → Nat → Int32} (hM : Mz G am w0 (tI th N) A w) {r a : Int32} (h : inb r 0 3 = false) : Ct G yX6_bundle kw_X6_bundle rm_X6_bundle [.ref (am 0), .int r, .int a] w (PB (.int (0)) (Mz G am w0 (tI 1 N) A)) := by
  refine ct_intro RX6 "bundle" (by decide +kernel) rfl rfl rfl (Nat.le_of_ble_eq_true rfl) [some (.ref (am 0)), some (.int r), some (.int a), none, none] rfl (fun C => ?_)
  refine g_aload0 dX6_bundle_0 ?_
  refine g_iload1 dX6_bundle_1 ?_
  refine g_callS1 ct_isReader md_X6_isReader dX6_bundle_2 ml_X6_135 st_X6_isReader (RmOk.of (Nat.le_of_ble_eq_true rfl) (Nat.le_of_ble_eq_true rfl) (Nat.le_of_ble_eq_true rfl) (Nat.le_of_ble_eq_true rfl) (Nat.le_of_ble_eq_true rfl)) (kr_V ?_) kx_V
  refine g_if_eq_t (tgt := 22) dX6_bundle_5 (by decide) (bI_0.mpr h) ?_
  refine g_iconst (v := 1) dX6_bundle_22 (by decide) ?_
  refine g_mput0 hM dX6_bundle_23 fl_X6_74 (fun w1 hM => ?_)
  refine g_iconst (v := 0) dX6_bundle_26 (by decide) ?_
  refine g_istore3 dX6_bundle_27 ?_
  refine g_iconst (v := 0) dX6_bundle_28 (by decide) ?_
  refine g_istore4 dX6_bundle_29 ?_
  refine g_iload4 dX6_bundle_31 ?_
  refine g_aload0 dX6_bundle_33 ?_
  refine g_getf kc7 dX6_bundle_34 fl_X6_107 (by decide) hM.1 (show _ = some (Value.int (nI (N 17))) from rfl) ?_
  refine g_icmp_ge (tgt := 88) dX6_bundle_37 (by decide) (fun h37 => ?_) (fun h37 => ?_)
  · skip
    refine g_iload3 dX6_bundle_88 ?_
    refine g_iret dX6_bundle_89 ?_ (Nat.le_of_ble_eq_true rfl) (Nat.le_of_ble_eq_true rfl)
    exact ⟨rfl, hM⟩
  · skip
    refine g_aload0 dX6_bundle_40 ?_
    refine g_getf kc7 dX6_bundle_41 fl_X6_74 (by decide) hM.1 (show _ = some (Value.int (1)) from rfl) ?_
    refine g_if_ne_t (tgt := 88) dX6_bundle_44 (by decide) (by decide) ?_
    refine g_iload3 dX6_bundle_88 ?_
    refine g_iret dX6_bundle_89 ?_ (Nat.le_of_ble_eq_true rfl) (Nat.le_of_ble_eq_true rfl)
    exact ⟨rfl, hM⟩

set_option maxRecDepth 100000 in
theorem mt_bundle_a2 {G : Gx} {w w0 : Wd} {am : Nat → Nat} {th : Int32} {N : Nat → Nat} {A : Nat → Nat → Int32} (hM : Mz G am w0 (tI th N) A w) {r a : Int32} (h0 : inb r 0 3 = true) (h : inb a 0 99 = false) : Ct G yX6_bundle kw_X6_bundle rm_X6_bundle [.ref (am 0), .int r, .int a] w (PB (.int (0)) (Mz G am w0 (tI 1 N) A)) := by
  refine ct_intro RX6 "bundle" (by decide +kernel) rfl rfl rfl (Nat.le_of_ble_eq_true rfl) [some (.ref (am 0)), some (.int r), some (.int a), none, none] rfl (fun C => ?_)
  refine g_aload0 dX6_bundle_0 ?_
  refine g_iload1 dX6_bundle_1 ?_
  refine g_callS1 ct_isReader md_X6_isReader dX6_bundle_2 ml_X6_135 st_X6_isReader (RmOk.of (Nat.le_of_ble_eq_true rfl) (Nat.le_of_ble_eq_true rfl) (Nat.le_of_ble_eq_true rfl) (Nat.le_of_ble_eq_true rfl) (Nat.le_of_ble_eq_true rfl)) (kr_V ?_) kx_V
  refine g_if_eq_f (tgt := 22) dX6_bundle_5 (by decide) (bI_n.mpr h0) ?_
  refine g_iload2 dX6_bundle_8 ?_
  refine g_iconst (v := 0) dX6_bundle_9 (by decide) ?_
  refine g_bipush (v := 99) dX6_bundle_10 (by decide) ?_
  refine g_callS3 ct_in md_X6_in dX6_bundle_12 ml_X6_81 st_X6_in (RmOk.of (Nat.le_of_ble_eq_true rfl) (Nat.le_of_ble_eq_true rfl) (Nat.le_of_ble_eq_true rfl) (Nat.le_of_ble_eq_true rfl) (Nat.le_of_ble_eq_true rfl)) (kr_V ?_) kx_V
  refine g_if_eq_t (tgt := 22) dX6_bundle_15 (by decide) (bI_0.mpr h) ?_
  refine g_iconst (v := 1) dX6_bundle_22 (by decide) ?_
  refine g_mput0 hM dX6_bundle_23 fl_X6_74 (fun w1 hM => ?_)
  refine g_iconst (v := 0) dX6_bundle_26 (by decide) ?_
  refine g_istore3 dX6_bundle_27 ?_
  refine g_iconst (v := 0) dX6_bundle_28 (by decide) ?_
  refine g_istore4 dX6_bundle_29 ?_
  refine g_iload4 dX6_bundle_31 ?_
  refine g_aload0 dX6_bundle_33 ?_
  refine g_getf kc7 dX6_bundle_34 fl_X6_107 (by decide) hM.1 (show _ = some (Value.int (nI (N 17))) from rfl) ?_
  refine g_icmp_ge (tgt := 88) dX6_bundle_37 (by decide) (fun h37 => ?_) (fun h37 => ?_)
  · skip
    refine g_iload3 dX6_bundle_88 ?_
    refine g_iret dX6_bundle_89 ?_ (Nat.le_of_ble_eq_true rfl) (Nat.le_of_ble_eq_true rfl)
    exact ⟨rfl, hM⟩
  · skip
    refine g_aload0 dX6_bundle_40 ?_
    refine g_getf kc7 dX6_bundle_41 fl_X6_74 (by decide) hM.1 (show _ = some (Value.int (1)) from rfl) ?_
    refine g_if_ne_t (tgt := 88) dX6_bundle_44 (by decide) (by decide) ?_
    refine g_iload3 dX6_bundle_88 ?_
    refine g_iret dX6_bundle_89 ?_ (Nat.le_of_ble_eq_true rfl) (Nat.le_of_ble_eq_true rfl)
    exact ⟨rfl, hM⟩

set_option maxRecDepth 100000 in
theorem lp_bundle {G : Gx} {w0 : Wd} {am : Nat → Nat} {N : Nat → Nat} {A : Nat → Nat → Int32} {w : Wd} {r : Nat} {a : Int32} (hM : Mz G am w0 (tI 0 N) A w) (hr : r < 4) (hd : N 17 ≤ 120) (C : Cx) : ∀ (M i : Nat), N 17 - i < M → i ≤ N 17 →
    Go G rm_X6_bundle cX6_bundle RX6 ((Option.some FieldType.int), "bundle", []) C (QP G rm_X6_bundle (PB (.int (buS A r a (N 17))) (Mz G am w0 (tI 0 N) A)) C) 31 [some (.ref (am 0)), some (.int (nI r)), some (.int a), some (.int (buS A r a i)), some (.int (nI i))] [] w 0 0 := by
  intro M
  induction M with
  | zero => intro i hM9; exact absurd hM9 (Nat.not_lt_zero _)
  | succ M ih =>
    intro i hi9 hi
    refine g_iload4 dX6_bundle_31 ?_
    refine g_aload0 dX6_bundle_33 ?_
    refine g_getf kc7 dX6_bundle_34 fl_X6_107 (by decide) hM.1 (show _ = some (Value.int (nI (N 17))) from rfl) ?_
    refine g_icmp_ge (tgt := 88) dX6_bundle_37 (by decide) (fun h37 => ?_) (fun h37 => ?_)
    · skip
      have hin : i = N 17 := Nat.le_antisymm hi (idx_ge (by omega) (by omega) h37)
      refine g_iload3 dX6_bundle_88 ?_
      refine g_iret dX6_bundle_89 ?_ (Nat.le_of_ble_eq_true rfl) (Nat.le_of_ble_eq_true rfl)
      exact ⟨by rw [hin], hM⟩
    · skip
      have hlt : i < N 17 := idx_lt (by omega) (by omega) h37
      refine g_aload0 dX6_bundle_40 ?_
      refine g_getf kc7 dX6_bundle_41 fl_X6_74 (by decide) hM.1 (show _ = some (Value.int (0)) from rfl) ?_
      refine g_if_ne_f (tgt := 88) dX6_bundle_44 (by decide) (by decide) ?_
      refine g_iload3 dX6_bundle_47 ?_
      refine g_aload0 dX6_bundle_48 ?_
      refine g_iload1 dX6_bundle_49 ?_
      refine g_iload4 dX6_bundle_50 ?_
      refine g_callV2 kc7 (mt_sees hM hr (by omega)) md_X6_sees dX6_bundle_52 ml_X6_138 im_X6_sees se_X6_sees hM.1 (RmOk.of (Nat.le_of_ble_eq_true rfl) (Nat.le_of_ble_eq_true rfl) (Nat.le_of_ble_eq_true rfl) (Nat.le_of_ble_eq_true rfl) (Nat.le_of_ble_eq_true rfl)) (kr_V ?_) kx_V
      refine g_if_eq (tgt := 79) dX6_bundle_55 (by decide) (fun h55 => ?_) (fun h55 => ?_)
      · skip
        refine g_iconst (v := 0) dX6_bundle_79 (by decide) ?_
        refine g_iadd dX6_bundle_80 ?_
        refine g_istore3 dX6_bundle_81 ?_
        refine g_iinc4 (v' := (nI (i + 1))) dX6_bundle_82 (nI_1 i) ?_
        refine g_goto (tgt := 31) dX6_bundle_85 (by decide) ?_
        have h9 := ih (i + 1) (by omega) (by omega)
        first
          | (have e : buS A r a (i + 1) = buS A r a i + A 19 i := by
               show _ + (if _ then _ else _) = _
               rw [if_pos (by unfold buP; rw [bI_n.mp h55, decide_eq_true h66]; rfl)]
             rw [e] at h9
             exact h9)
          | (have e : buS A r a (i + 1) = buS A r a i + 0 := by
               show _ + (if _ then _ else _) = _
               rw [if_neg (by unfold buP; first | (rw [bI_0.mp h55]; simp) | (rw [decide_eq_false h66]; simp))]
             rw [e] at h9
             exact h9)
      · skip
        refine g_aload0 dX6_bundle_58 ?_
        refine g_getf kc7 dX6_bundle_59 fl_X6_46 (by decide) hM.1 rfl ?_
        refine g_iload4 dX6_bundle_62 ?_
        refine g_miald (k := 20) (n := 120) hM rfl (by decide) (fun _ => rfl) dX6_bundle_64 (by omega) (by decide) ?_
        refine g_iload2 dX6_bundle_65 ?_
        refine g_icmp_ne (tgt := 79) dX6_bundle_66 (by decide) (fun h66 => ?_) (fun h66 => ?_)
        · skip
          refine g_iconst (v := 0) dX6_bundle_79 (by decide) ?_
          refine g_iadd dX6_bundle_80 ?_
          refine g_istore3 dX6_bundle_81 ?_
          refine g_iinc4 (v' := (nI (i + 1))) dX6_bundle_82 (nI_1 i) ?_
          refine g_goto (tgt := 31) dX6_bundle_85 (by decide) ?_
          have h9 := ih (i + 1) (by omega) (by omega)
          first
            | (have e : buS A r a (i + 1) = buS A r a i + A 19 i := by
                 show _ + (if _ then _ else _) = _
                 rw [if_pos (by unfold buP; rw [bI_n.mp h55, decide_eq_true h66]; rfl)]
               rw [e] at h9
               exact h9)
            | (have e : buS A r a (i + 1) = buS A r a i + 0 := by
                 show _ + (if _ then _ else _) = _
                 rw [if_neg (by unfold buP; first | (rw [bI_0.mp h55]; simp) | (rw [decide_eq_false h66]; simp))]
               rw [e] at h9
               exact h9)
        · skip
          refine g_aload0 dX6_bundle_69 ?_
          refine g_getf kc7 dX6_bundle_70 fl_X6_43 (by decide) hM.1 rfl ?_
          refine g_iload4 dX6_bundle_73 ?_
          refine g_miald (k := 19) (n := 120) hM rfl (by decide) (fun _ => rfl) dX6_bundle_75 (by omega) (by decide) ?_
          refine g_goto (tgt := 80) dX6_bundle_76 (by decide) ?_
          refine g_iadd dX6_bundle_80 ?_
          refine g_istore3 dX6_bundle_81 ?_
          refine g_iinc4 (v' := (nI (i + 1))) dX6_bundle_82 (nI_1 i) ?_
          refine g_goto (tgt := 31) dX6_bundle_85 (by decide) ?_
          have h9 := ih (i + 1) (by omega) (by omega)
          first
            | (have e : buS A r a (i + 1) = buS A r a i + A 19 i := by
                 show _ + (if _ then _ else _) = _
                 rw [if_pos (by unfold buP; rw [bI_n.mp h55, decide_eq_true h66]; rfl)]
               rw [e] at h9
               exact h9)
            | (have e : buS A r a (i + 1) = buS A r a i + 0 := by
                 show _ + (if _ then _ else _) = _
                 rw [if_neg (by unfold buP; first | (rw [bI_0.mp h55]; simp) | (rw [decide_eq_false h66]; simp))]
               rw [e] at h9
               exact h9)

set_option maxRecDepth 100000 in
theorem mt_bundle_b {G : Gx} {w w0 : Wd} {am : Nat → Nat} {th : Int32} {N : Nat → Nat} {A : Nat → Nat → Int32} (hM : Mz G am w0 (tI th N) A w) {r : Nat} {a : Int32} (h0 : inb (nI r) 0 3 = true) (h : inb a 0 99 = true) (hr : r < 4) (hd : N 17 ≤ 120) : Ct G yX6_bundle kw_X6_bundle rm_X6_bundle [.ref (am 0), .int (nI r), .int a] w (PB (.int (buS A r a (N 17))) (Mz G am w0 (tI 0 N) A)) := by
  refine ct_intro RX6 "bundle" (by decide +kernel) rfl rfl rfl (Nat.le_of_ble_eq_true rfl) [some (.ref (am 0)), some (.int (nI r)), some (.int a), none, none] rfl (fun C => ?_)
  refine g_aload0 dX6_bundle_0 ?_
  refine g_iload1 dX6_bundle_1 ?_
  refine g_callS1 ct_isReader md_X6_isReader dX6_bundle_2 ml_X6_135 st_X6_isReader (RmOk.of (Nat.le_of_ble_eq_true rfl) (Nat.le_of_ble_eq_true rfl) (Nat.le_of_ble_eq_true rfl) (Nat.le_of_ble_eq_true rfl) (Nat.le_of_ble_eq_true rfl)) (kr_V ?_) kx_V
  refine g_if_eq_f (tgt := 22) dX6_bundle_5 (by decide) (bI_n.mpr h0) ?_
  refine g_iload2 dX6_bundle_8 ?_
  refine g_iconst (v := 0) dX6_bundle_9 (by decide) ?_
  refine g_bipush (v := 99) dX6_bundle_10 (by decide) ?_
  refine g_callS3 ct_in md_X6_in dX6_bundle_12 ml_X6_81 st_X6_in (RmOk.of (Nat.le_of_ble_eq_true rfl) (Nat.le_of_ble_eq_true rfl) (Nat.le_of_ble_eq_true rfl) (Nat.le_of_ble_eq_true rfl) (Nat.le_of_ble_eq_true rfl)) (kr_V ?_) kx_V
  refine g_if_eq_f (tgt := 22) dX6_bundle_15 (by decide) (bI_n.mpr h) ?_
  refine g_iconst (v := 0) dX6_bundle_18 (by decide) ?_
  refine g_goto (tgt := 23) dX6_bundle_19 (by decide) ?_
  refine g_mput0 hM dX6_bundle_23 fl_X6_74 (fun w1 hM => ?_)
  refine g_iconst (v := 0) dX6_bundle_26 (by decide) ?_
  refine g_istore3 dX6_bundle_27 ?_
  refine g_iconst (v := 0) dX6_bundle_28 (by decide) ?_
  refine g_istore4 dX6_bundle_29 ?_
  exact lp_bundle hM hr hd C (N 17 + 1) 0 (by omega) (Nat.zero_le _)

