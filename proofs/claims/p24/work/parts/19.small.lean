/-! The keeper's small methods over its heap. -/
theorem Kl.g1 {G : Gx} {X : Nat → Prop} {w0 w : Wd} {S : KS} (hK : Kl G X w0 S w) {i : Nat} (hi : i < S.nn 1) : w (S.ad 1 i) = some (eFm 0 0 1) := hK.at_ 1 i (lvK (by decide) (by decide) hi)
theorem Kl.b1 {G : Gx} {X : Nat → Prop} {w0 w : Wd} {S : KS} (hK : Kl G X w0 S w) {i : Nat} (hi : i < S.nn 1) : (gH G).size ≤ S.ad 1 i := hK.base 1 i (lvK (by decide) (by decide) hi)
theorem Kl.g2 {G : Gx} {X : Nat → Prop} {w0 w : Wd} {S : KS} (hK : Kl G X w0 S w) {i : Nat} (hi : i < S.nn 2) : w (S.ad 2 i) = some (eFm (S.fm i 0) (S.fm i 1) (S.fm i 2)) := hK.at_ 2 i (lvK (by decide) (by decide) hi)
theorem Kl.b2 {G : Gx} {X : Nat → Prop} {w0 w : Wd} {S : KS} (hK : Kl G X w0 S w) {i : Nat} (hi : i < S.nn 2) : (gH G).size ≤ S.ad 2 i := hK.base 2 i (lvK (by decide) (by decide) hi)
theorem Kl.g3 {G : Gx} {X : Nat → Prop} {w0 w : Wd} {S : KS} (hK : Kl G X w0 S w) {i : Nat} (hi : i < S.nn 3) : w (S.ad 3 i) = some (eLs (S.mo i) (ddK G S i) (S.ln i)) := hK.at_ 3 i (lvK (by decide) (by decide) hi)
theorem Kl.b3 {G : Gx} {X : Nat → Prop} {w0 w : Wd} {S : KS} (hK : Kl G X w0 S w) {i : Nat} (hi : i < S.nn 3) : (gH G).size ≤ S.ad 3 i := hK.base 3 i (lvK (by decide) (by decide) hi)
theorem Kl.g5 {G : Gx} {X : Nat → Prop} {w0 w : Wd} {S : KS} (hK : Kl G X w0 S w) {i : Nat} (hi : i < S.nn 5) : w (S.ad 5 i) = some (eRn (S.ad 3 (i + 4)) (S.rD i)) := hK.at_ 5 i (lvK (by decide) (by decide) hi)
theorem Kl.b5 {G : Gx} {X : Nat → Prop} {w0 w : Wd} {S : KS} (hK : Kl G X w0 S w) {i : Nat} (hi : i < S.nn 5) : (gH G).size ≤ S.ad 5 i := hK.base 5 i (lvK (by decide) (by decide) hi)
theorem Kl.g6 {G : Gx} {X : Nat → Prop} {w0 w : Wd} {S : KS} (hK : Kl G X w0 S w) {i : Nat} (hi : i < S.nn 6) : w (S.ad 6 i) = some (ePg (S.ad 7 i) (nI (S.pS i)) (S.pC i)) := hK.at_ 6 i (lvK (by decide) (by decide) hi)
theorem Kl.b6 {G : Gx} {X : Nat → Prop} {w0 w : Wd} {S : KS} (hK : Kl G X w0 S w) {i : Nat} (hi : i < S.nn 6) : (gH G).size ≤ S.ad 6 i := hK.base 6 i (lvK (by decide) (by decide) hi)
theorem Kl.g7 {G : Gx} {X : Nat → Prop} {w0 w : Wd} {S : KS} (hK : Kl G X w0 S w) {i : Nat} (hi : i < S.nn 7) : w (S.ad 7 i) = some (eI G 8 (S.pV i)) := hK.at_ 7 i (lvK (by decide) (by decide) hi)
theorem Kl.b7 {G : Gx} {X : Nat → Prop} {w0 w : Wd} {S : KS} (hK : Kl G X w0 S w) {i : Nat} (hi : i < S.nn 7) : (gH G).size ≤ S.ad 7 i := hK.base 7 i (lvK (by decide) (by decide) hi)
theorem Kl.g8 {G : Gx} {X : Nat → Prop} {w0 w : Wd} {S : KS} (hK : Kl G X w0 S w) {i : Nat} (hi : i < S.nn 8) : w (S.ad 8 i) = some (eDc (S.ad 5 (S.dR i)) (S.dI i 0) (S.dI i 1) (S.dI i 2) (S.dI i 3) (S.dI i 4)) := hK.at_ 8 i (lvK (by decide) (by decide) hi)
theorem Kl.b8 {G : Gx} {X : Nat → Prop} {w0 w : Wd} {S : KS} (hK : Kl G X w0 S w) {i : Nat} (hi : i < S.nn 8) : (gH G).size ≤ S.ad 8 i := hK.base 8 i (lvK (by decide) (by decide) hi)
theorem Kl.g9 {G : Gx} {X : Nat → Prop} {w0 w : Wd} {S : KS} (hK : Kl G X w0 S w) {i : Nat} (hi : i < S.nn 9) : w (S.ad 9 i) = some (eRd (S.rd i 0) (S.rd i 1) (S.rd i 2) (S.rd i 3)) := hK.at_ 9 i (lvK (by decide) (by decide) hi)
theorem Kl.b9 {G : Gx} {X : Nat → Prop} {w0 w : Wd} {S : KS} (hK : Kl G X w0 S w) {i : Nat} (hi : i < S.nn 9) : (gH G).size ≤ S.ad 9 i := hK.base 9 i (lvK (by decide) (by decide) hi)
theorem Kl.l0 {G : Gx} {X : Nat → Prop} {w0 w : Wd} {S : KS} (hK : Kl G X w0 S w) : Lv S 0 0 := lvK (by decide) (by decide) (by rw [hK.cl.c0.1]; decide)
theorem Kl.g0 {G : Gx} {X : Nat → Prop} {w0 w : Wd} {S : KS} (hK : Kl G X w0 S w) : w (S.ad 0 0) = some (eO 6 [.int S.day, .ref (S.ad 1 0), .ref (S.ad 3 0), .ref (S.ad 3 1), .int S.kept, .ref (S.ad 5 S.oR), .ref (S.ad 6 S.oP), .ref (S.ad 3 2), .ref (S.ad 3 3), .ref (S.ad 10 0), .ref (S.ad 11 0)]) := hK.at_ 0 0 hK.l0
theorem Kl.b0 {G : Gx} {X : Nat → Prop} {w0 w : Wd} {S : KS} (hK : Kl G X w0 S w) : (gH G).size ≤ S.ad 0 0 := hK.base 0 0 hK.l0
theorem Kl.l10 {G : Gx} {X : Nat → Prop} {w0 w : Wd} {S : KS} (hK : Kl G X w0 S w) : Lv S 10 0 := lvK (by decide) (by decide) (by rw [hK.cl.c0.2.2.1]; decide)
theorem Kl.l11 {G : Gx} {X : Nat → Prop} {w0 w : Wd} {S : KS} (hK : Kl G X w0 S w) : Lv S 11 0 := lvK (by decide) (by decide) (by rw [hK.cl.c0.2.2.2]; decide)
theorem Kl.g10 {G : Gx} {X : Nat → Prop} {w0 w : Wd} {S : KS} (hK : Kl G X w0 S w) : w (S.ad 10 0) = some (eI G 4 S.sp) := hK.at_ 10 0 hK.l10
theorem Kl.g11 {G : Gx} {X : Nat → Prop} {w0 w : Wd} {S : KS} (hK : Kl G X w0 S w) : w (S.ad 11 0) = some (eZ G 100 S.he) := hK.at_ 11 0 hK.l11
theorem Kl.u3 {G : Gx} {X : Nat → Prop} {w0 w : Wd} {S : KS} (hK : Kl G X w0 S w) : S.nn 5 + 4 ≤ S.nn 3 := hK.cl.c5
theorem Kl.ctSize {G : Gx} {X : Nat → Prop} {w0 w : Wd} {S : KS} (hK : Kl G X w0 S w) {l : Nat} (hl : l < S.nn 3) : Ct G yJx4a65c_size_8abf5 kw_Jx4a65c_size_8abf5 rm_Jx4a65c_size_8abf5 [.ref (S.ad 3 l)] w (PV (.int (nI (S.ln l))) w) := ct_size (hK.g3 hl)
theorem Kl.ctGet {G : Gx} {X : Nat → Prop} {w0 w : Wd} {S : KS} (hK : Kl G X w0 S w) {l j : Nat} (hl : l < S.nn 3) (hj : j < S.ln l) : Ct G yJx4a65c_get_915e3 kw_Jx4a65c_get_915e3 rm_Jx4a65c_get_915e3 [.ref (S.ad 3 l), .int (nI j)] w (PV (.ref (elK S l j)) w) := ct_get (hK.g3 hl) (hK.dd hl).1 hj (hK.cl.cp l hl).1 (by have := hK.cl.cp l hl; omega) (if_pos hj)
theorem out_n {v : Int32} {n : Nat} (hn : n < 2 ^ 31) (h : inb v 0 (nI n - 1) = false) (h1 : ¬ v < 0) : ¬ v < nI n := by
  intro h2
  obtain ⟨j, hj, rfl⟩ := nI_of h1
  have : inb (nI j) 0 (nI n - 1) = true := (inb_lt hn).mpr ⟨j, (nI_ltI hj hn).mp h2, rfl⟩
  rw [h] at this
  cases this
theorem out_n2 {v : Int32} {n : Nat} (hn : n < 2 ^ 31) (h : inb v 0 (nI n - 1) = false) (h1 : ¬ v < 0) : nI n ≤ v := by
  have := out_n hn h h1
  rw [Int32.not_lt] at this
  exact this

abbrev rm_X5_demandRange : Room := { frames := 6, cells := 1, slots := 6, locals := 82 }

set_option maxRecDepth 100000 in
theorem ct_dr_ok {G : Gx} {w : Wd} {v lo hi : Int32} (h : inb v lo hi = true) : Ct G yX5_demandRange kw_X5_demandRange rm_X5_demandRange [.int v, .int lo, .int hi] w (PU w) := by
  refine ct_intro RX5 "demandRange" (by decide +kernel) rfl rfl rfl (Nat.le_of_ble_eq_true rfl) [some (.int v), some (.int lo), some (.int hi)] rfl (fun C => ?_)
  refine g_iload0 dX5_demandRange_0 ?_
  refine g_iload1 dX5_demandRange_1 ?_
  refine g_icmp_lt_f (tgt := 10) dX5_demandRange_2 (by decide) (inb_t.mp h).1 ?_
  refine g_iload0 dX5_demandRange_5 ?_
  refine g_iload2 dX5_demandRange_6 ?_
  refine g_icmp_le_t (tgt := 20) dX5_demandRange_7 (by decide) (inb_t.mp h).2 ?_
  refine g_vret dX5_demandRange_20 ?_ (Nat.le_of_ble_eq_true rfl) (Nat.le_of_ble_eq_true rfl)
  exact ⟨rfl, rfl⟩

set_option maxRecDepth 100000 in
theorem ct_dr_no {G : Gx} {w : Wd} {v lo hi : Int32} (h : inb v lo hi = false) : Ct G yX5_demandRange kw_X5_demandRange rm_X5_demandRange [.int v, .int lo, .int hi] w (PX "java/lang/IllegalArgumentException" w) := by
  refine ct_intro RX5 "demandRange" (by decide +kernel) rfl rfl rfl (Nat.le_of_ble_eq_true rfl) [some (.int v), some (.int lo), some (.int hi)] rfl (fun C => ?_)
  refine g_iload0 dX5_demandRange_0 ?_
  refine g_iload1 dX5_demandRange_1 ?_
  refine g_icmp_lt (tgt := 10) dX5_demandRange_2 (by decide) (fun h2 => ?_) (fun h2 => ?_)
  · skip
    refine g_throwS tw_X5_211_227_215 dX5_demandRange_10 dX5_demandRange_13 dX5_demandRange_14 dX5_demandRange_16 dX5_demandRange_19 (fun _ h => nomatch h) (Nat.le_of_ble_eq_true rfl) (Nat.le_of_ble_eq_true rfl) ?_ (Nat.le_of_ble_eq_true rfl) (Nat.le_of_ble_eq_true rfl)
    exact ⟨rfl, rfl⟩
  · skip
    refine g_iload0 dX5_demandRange_5 ?_
    refine g_iload2 dX5_demandRange_6 ?_
    refine g_icmp_le_f (tgt := 20) dX5_demandRange_7 (by decide) ((inb_f.mp h).resolve_left h2) ?_
    refine g_throwS tw_X5_211_227_215 dX5_demandRange_10 dX5_demandRange_13 dX5_demandRange_14 dX5_demandRange_16 dX5_demandRange_19 (fun _ h => nomatch h) (Nat.le_of_ble_eq_true rfl) (Nat.le_of_ble_eq_true rfl) ?_ (Nat.le_of_ble_eq_true rfl) (Nat.le_of_ble_eq_true rfl)
    exact ⟨rfl, rfl⟩

abbrev rm_X5_demandPage : Room := { frames := 6, cells := 1, slots := 6, locals := 82 }

set_option maxRecDepth 100000 in
theorem ct_dp_ok {G : Gx} {X : Nat → Prop} {w0 w : Wd} {S : KS} (hK : Kl G X w0 S w) {r : Nat} (hr : r < S.nn 5) {j : Nat} (hj : j < S.ln (r + 4)) : Ct G yX5_demandPage kw_X5_demandPage rm_X5_demandPage [.ref (S.ad 5 r), .int (nI j)] w (PU w) := by
  have hr3 : r + 4 < S.nn 3 := by have := hK.u3; omega
  have hln : S.ln (r + 4) ≤ 200 := by have := hK.cl.cp _ hr3; omega
  refine ct_intro RX5 "demandPage" (by decide +kernel) rfl rfl rfl (Nat.le_of_ble_eq_true rfl) [some (.ref (S.ad 5 r)), some (.int (nI j))] rfl (fun C => ?_)
  refine g_iload1 dX5_demandPage_0 ?_
  refine g_if_lt_f (tgt := 15) dX5_demandPage_1 (by decide) (nI_pos (by omega)) ?_
  refine g_iload1 dX5_demandPage_4 ?_
  refine g_aload0 dX5_demandPage_5 ?_
  refine g_getf kc5 dX5_demandPage_6 fl_X5_103 (by decide) (hK.g5 hr) rfl ?_
  refine g_callV0 kc0 (hK.ctSize hr3) md_Jx4a65c_size_8abf5 dX5_demandPage_9 ml_X5_85 im_Jx4a65c_size_8abf5 se_Jx4a65c_size_8abf5 (hK.g3 hr3) (RmOk.of (Nat.le_of_ble_eq_true rfl) (Nat.le_of_ble_eq_true rfl) (Nat.le_of_ble_eq_true rfl) (Nat.le_of_ble_eq_true rfl) (Nat.le_of_ble_eq_true rfl)) (kr_V ?_) kx_V
  refine g_icmp_lt_t (tgt := 25) dX5_demandPage_12 (by decide) (nI_lt hj (by omega)) ?_
  refine g_vret dX5_demandPage_25 ?_ (Nat.le_of_ble_eq_true rfl) (Nat.le_of_ble_eq_true rfl)
  exact ⟨rfl, rfl⟩

set_option maxRecDepth 100000 in
theorem ct_dp_no {G : Gx} {X : Nat → Prop} {w0 w : Wd} {S : KS} (hK : Kl G X w0 S w) {r : Nat} (hr : r < S.nn 5) {v : Int32} (h : inb v 0 (nI (S.ln (r + 4)) - 1) = false) : Ct G yX5_demandPage kw_X5_demandPage rm_X5_demandPage [.ref (S.ad 5 r), .int v] w (PX "java/lang/IndexOutOfBoundsException" w) := by
  have hr3 : r + 4 < S.nn 3 := by have := hK.u3; omega
  have hln : S.ln (r + 4) ≤ 200 := by have := hK.cl.cp _ hr3; omega
  refine ct_intro RX5 "demandPage" (by decide +kernel) rfl rfl rfl (Nat.le_of_ble_eq_true rfl) [some (.ref (S.ad 5 r)), some (.int v)] rfl (fun C => ?_)
  refine g_iload1 dX5_demandPage_0 ?_
  refine g_if_lt (tgt := 15) dX5_demandPage_1 (by decide) (fun h1 => ?_) (fun h1 => ?_)
  · skip
    refine g_throwS tw_X5_176_229_180 dX5_demandPage_15 dX5_demandPage_18 dX5_demandPage_19 dX5_demandPage_21 dX5_demandPage_24 (fun _ h => nomatch h) (Nat.le_of_ble_eq_true rfl) (Nat.le_of_ble_eq_true rfl) ?_ (Nat.le_of_ble_eq_true rfl) (Nat.le_of_ble_eq_true rfl)
    exact ⟨rfl, rfl⟩
  · skip
    refine g_iload1 dX5_demandPage_4 ?_
    refine g_aload0 dX5_demandPage_5 ?_
    refine g_getf kc5 dX5_demandPage_6 fl_X5_103 (by decide) (hK.g5 hr) rfl ?_
    refine g_callV0 kc0 (hK.ctSize hr3) md_Jx4a65c_size_8abf5 dX5_demandPage_9 ml_X5_85 im_Jx4a65c_size_8abf5 se_Jx4a65c_size_8abf5 (hK.g3 hr3) (RmOk.of (Nat.le_of_ble_eq_true rfl) (Nat.le_of_ble_eq_true rfl) (Nat.le_of_ble_eq_true rfl) (Nat.le_of_ble_eq_true rfl) (Nat.le_of_ble_eq_true rfl)) (kr_V ?_) kx_V
    refine g_icmp_lt_f (tgt := 25) dX5_demandPage_12 (by decide) (out_n (by omega) h h1) ?_
    refine g_throwS tw_X5_176_229_180 dX5_demandPage_15 dX5_demandPage_18 dX5_demandPage_19 dX5_demandPage_21 dX5_demandPage_24 (fun _ h => nomatch h) (Nat.le_of_ble_eq_true rfl) (Nat.le_of_ble_eq_true rfl) ?_ (Nat.le_of_ble_eq_true rfl) (Nat.le_of_ble_eq_true rfl)
    exact ⟨rfl, rfl⟩

abbrev rm_X5_pageAt : Room := { frames := 7, cells := 1, slots := 6, locals := 103 }

set_option maxRecDepth 100000 in
theorem ct_pageAt_ok {G : Gx} {X : Nat → Prop} {w0 w : Wd} {S : KS} (hK : Kl G X w0 S w) {r : Nat} (hr : r < S.nn 5) {j : Nat} (hj : j < S.ln (r + 4)) : Ct G yX5_pageAt kw_X5_pageAt rm_X5_pageAt [.ref (S.ad 5 r), .int (nI j)] w (PV (.ref (S.ad 6 (S.rF r + j))) w) := by
  have hr3 : r + 4 < S.nn 3 := by have := hK.u3; omega
  have hln : S.ln (r + 4) ≤ 200 := by have := hK.cl.cp _ hr3; omega
  refine ct_intro RX5 "pageAt" (by decide +kernel) rfl rfl rfl (Nat.le_of_ble_eq_true rfl) [some (.ref (S.ad 5 r)), some (.int (nI j))] rfl (fun C => ?_)
  refine g_aload0 dX5_pageAt_0 ?_
  refine g_iload1 dX5_pageAt_1 ?_
  refine g_callS2 (ct_dp_ok hK hr hj) md_X5_demandPage dX5_pageAt_2 ml_X5_134 st_X5_demandPage (RmOk.of (Nat.le_of_ble_eq_true rfl) (Nat.le_of_ble_eq_true rfl) (Nat.le_of_ble_eq_true rfl) (Nat.le_of_ble_eq_true rfl) (Nat.le_of_ble_eq_true rfl)) (kr_U ?_) kx_U
  refine g_aload0 dX5_pageAt_5 ?_
  refine g_getf kc5 dX5_pageAt_6 fl_X5_103 (by decide) (hK.g5 hr) rfl ?_
  refine g_iload1 dX5_pageAt_9 ?_
  refine g_callV1 kc0 (hK.ctGet hr3 hj) md_Jx4a65c_get_915e3 dX5_pageAt_10 ml_X5_126 im_Jx4a65c_get_915e3 se_Jx4a65c_get_915e3 (hK.g3 hr3) (RmOk.of (Nat.le_of_ble_eq_true rfl) (Nat.le_of_ble_eq_true rfl) (Nat.le_of_ble_eq_true rfl) (Nat.le_of_ble_eq_true rfl) (Nat.le_of_ble_eq_true rfl)) (kr_V ?_) kx_V
  refine g_cast kc3 dX5_pageAt_13 cl_X5_35 (hK.g6 (hK.cl.el (r + 4) j hr3 hj)) ?_
  refine g_aret (Or.inl ⟨_, rfl⟩) dX5_pageAt_16 ?_ (Nat.le_of_ble_eq_true rfl) (Nat.le_of_ble_eq_true rfl)
  exact ⟨rfl, rfl⟩

set_option maxRecDepth 100000 in
theorem ct_pageAt_no {G : Gx} {X : Nat → Prop} {w0 w : Wd} {S : KS} (hK : Kl G X w0 S w) {r : Nat} (hr : r < S.nn 5) {v : Int32} (h : inb v 0 (nI (S.ln (r + 4)) - 1) = false) : Ct G yX5_pageAt kw_X5_pageAt rm_X5_pageAt [.ref (S.ad 5 r), .int v] w (PX "java/lang/IndexOutOfBoundsException" w) := by
  refine ct_intro RX5 "pageAt" (by decide +kernel) rfl rfl rfl (Nat.le_of_ble_eq_true rfl) [some (.ref (S.ad 5 r)), some (.int v)] rfl (fun C => ?_)
  refine g_aload0 dX5_pageAt_0 ?_
  refine g_iload1 dX5_pageAt_1 ?_
  refine g_callS2 (ct_dp_no hK hr h) md_X5_demandPage dX5_pageAt_2 ml_X5_134 st_X5_demandPage (RmOk.of (Nat.le_of_ble_eq_true rfl) (Nat.le_of_ble_eq_true rfl) (Nat.le_of_ble_eq_true rfl) (Nat.le_of_ble_eq_true rfl) (Nat.le_of_ble_eq_true rfl)) kr_X (kx_X ?_)
  refine gx_out (fun _ h => nomatch h) ?_ (Nat.le_of_ble_eq_true rfl) (Nat.le_of_ble_eq_true rfl)
  exact ⟨rfl, rfl⟩

abbrev rm_X5_runAt : Room := { frames := 6, cells := 1, slots := 6, locals := 82 }

set_option maxRecDepth 100000 in
theorem ct_runAt_ok {G : Gx} {X : Nat → Prop} {w0 w : Wd} {S : KS} (hK : Kl G X w0 S w) {j : Nat} (hj : j < S.ln 1) : Ct G yX5_runAt kw_X5_runAt rm_X5_runAt [.ref (S.ad 0 0), .int (nI j)] w (PV (.ref (S.ad 5 j)) w) := by
  have hr3 : 1 < S.nn 3 := by have := hK.u3; omega
  have hln : S.ln 1 ≤ 200 := by have := hK.cl.cp _ hr3; omega
  refine ct_intro RX5 "runAt" (by decide +kernel) rfl rfl rfl (Nat.le_of_ble_eq_true rfl) [some (.ref (S.ad 0 0)), some (.int (nI j))] rfl (fun C => ?_)
  refine g_iload1 dX5_runAt_0 ?_
  refine g_if_lt_f (tgt := 15) dX5_runAt_1 (by decide) (nI_pos (by omega)) ?_
  refine g_iload1 dX5_runAt_4 ?_
  refine g_aload0 dX5_runAt_5 ?_
  refine g_getf kc6 dX5_runAt_6 fl_X5_25 (by decide) hK.g0 rfl ?_
  refine g_callV0 kc0 (hK.ctSize hr3) md_Jx4a65c_size_8abf5 dX5_runAt_9 ml_X5_85 im_Jx4a65c_size_8abf5 se_Jx4a65c_size_8abf5 (hK.g3 hr3) (RmOk.of (Nat.le_of_ble_eq_true rfl) (Nat.le_of_ble_eq_true rfl) (Nat.le_of_ble_eq_true rfl) (Nat.le_of_ble_eq_true rfl) (Nat.le_of_ble_eq_true rfl)) (kr_V ?_) kx_V
  refine g_icmp_lt_t (tgt := 25) dX5_runAt_12 (by decide) (nI_lt hj (by omega)) ?_
  refine g_aload0 dX5_runAt_25 ?_
  refine g_getf kc6 dX5_runAt_26 fl_X5_25 (by decide) hK.g0 rfl ?_
  refine g_iload1 dX5_runAt_29 ?_
  refine g_callV1 kc0 (hK.ctGet hr3 hj) md_Jx4a65c_get_915e3 dX5_runAt_30 ml_X5_126 im_Jx4a65c_get_915e3 se_Jx4a65c_get_915e3 (hK.g3 hr3) (RmOk.of (Nat.le_of_ble_eq_true rfl) (Nat.le_of_ble_eq_true rfl) (Nat.le_of_ble_eq_true rfl) (Nat.le_of_ble_eq_true rfl) (Nat.le_of_ble_eq_true rfl)) (kr_V ?_) kx_V
  refine g_cast kc5 dX5_runAt_33 cl_X5_28 (hK.g5 (hK.cl.el 1 j hr3 hj)) ?_
  refine g_aret (Or.inl ⟨_, rfl⟩) dX5_runAt_36 ?_ (Nat.le_of_ble_eq_true rfl) (Nat.le_of_ble_eq_true rfl)
  exact ⟨rfl, rfl⟩

set_option maxRecDepth 100000 in
theorem ct_runAt_no {G : Gx} {X : Nat → Prop} {w0 w : Wd} {S : KS} (hK : Kl G X w0 S w) {v : Int32} (h : inb v 0 (nI (S.ln 1) - 1) = false) : Ct G yX5_runAt kw_X5_runAt rm_X5_runAt [.ref (S.ad 0 0), .int v] w (PX "java/lang/IndexOutOfBoundsException" w) := by
  have hr3 : 1 < S.nn 3 := by have := hK.u3; omega
  have hln : S.ln 1 ≤ 200 := by have := hK.cl.cp _ hr3; omega
  refine ct_intro RX5 "runAt" (by decide +kernel) rfl rfl rfl (Nat.le_of_ble_eq_true rfl) [some (.ref (S.ad 0 0)), some (.int v)] rfl (fun C => ?_)
  refine g_iload1 dX5_runAt_0 ?_
  refine g_if_lt (tgt := 15) dX5_runAt_1 (by decide) (fun h1 => ?_) (fun h1 => ?_)
  · skip
    refine g_throwS tw_X5_176_231_180 dX5_runAt_15 dX5_runAt_18 dX5_runAt_19 dX5_runAt_21 dX5_runAt_24 (fun _ h => nomatch h) (Nat.le_of_ble_eq_true rfl) (Nat.le_of_ble_eq_true rfl) ?_ (Nat.le_of_ble_eq_true rfl) (Nat.le_of_ble_eq_true rfl)
    exact ⟨rfl, rfl⟩
  · skip
    refine g_iload1 dX5_runAt_4 ?_
    refine g_aload0 dX5_runAt_5 ?_
    refine g_getf kc6 dX5_runAt_6 fl_X5_25 (by decide) hK.g0 rfl ?_
    refine g_callV0 kc0 (hK.ctSize hr3) md_Jx4a65c_size_8abf5 dX5_runAt_9 ml_X5_85 im_Jx4a65c_size_8abf5 se_Jx4a65c_size_8abf5 (hK.g3 hr3) (RmOk.of (Nat.le_of_ble_eq_true rfl) (Nat.le_of_ble_eq_true rfl) (Nat.le_of_ble_eq_true rfl) (Nat.le_of_ble_eq_true rfl) (Nat.le_of_ble_eq_true rfl)) (kr_V ?_) kx_V
    refine g_icmp_lt_f (tgt := 25) dX5_runAt_12 (by decide) (out_n (by omega) h h1) ?_
    refine g_throwS tw_X5_176_231_180 dX5_runAt_15 dX5_runAt_18 dX5_runAt_19 dX5_runAt_21 dX5_runAt_24 (fun _ h => nomatch h) (Nat.le_of_ble_eq_true rfl) (Nat.le_of_ble_eq_true rfl) ?_ (Nat.le_of_ble_eq_true rfl) (Nat.le_of_ble_eq_true rfl)
    exact ⟨rfl, rfl⟩

abbrev rm_X5_documentAt : Room := { frames := 6, cells := 1, slots := 6, locals := 82 }

set_option maxRecDepth 100000 in
theorem ct_docAt_ok {G : Gx} {X : Nat → Prop} {w0 w : Wd} {S : KS} (hK : Kl G X w0 S w) {j : Nat} (hj : j < S.ln 2) : Ct G yX5_documentAt kw_X5_documentAt rm_X5_documentAt [.ref (S.ad 0 0), .int (nI j)] w (PV (.ref (S.ad 8 j)) w) := by
  have hr3 : 2 < S.nn 3 := by have := hK.u3; omega
  have hln : S.ln 2 ≤ 200 := by have := hK.cl.cp _ hr3; omega
  refine ct_intro RX5 "documentAt" (by decide +kernel) rfl rfl rfl (Nat.le_of_ble_eq_true rfl) [some (.ref (S.ad 0 0)), some (.int (nI j))] rfl (fun C => ?_)
  refine g_iload1 dX5_documentAt_0 ?_
  refine g_if_lt_f (tgt := 15) dX5_documentAt_1 (by decide) (nI_pos (by omega)) ?_
  refine g_iload1 dX5_documentAt_4 ?_
  refine g_aload0 dX5_documentAt_5 ?_
  refine g_getf kc6 dX5_documentAt_6 fl_X5_42 (by decide) hK.g0 rfl ?_
  refine g_callV0 kc0 (hK.ctSize hr3) md_Jx4a65c_size_8abf5 dX5_documentAt_9 ml_X5_85 im_Jx4a65c_size_8abf5 se_Jx4a65c_size_8abf5 (hK.g3 hr3) (RmOk.of (Nat.le_of_ble_eq_true rfl) (Nat.le_of_ble_eq_true rfl) (Nat.le_of_ble_eq_true rfl) (Nat.le_of_ble_eq_true rfl) (Nat.le_of_ble_eq_true rfl)) (kr_V ?_) kx_V
  refine g_icmp_lt_t (tgt := 25) dX5_documentAt_12 (by decide) (nI_lt hj (by omega)) ?_
  refine g_aload0 dX5_documentAt_25 ?_
  refine g_getf kc6 dX5_documentAt_26 fl_X5_42 (by decide) hK.g0 rfl ?_
  refine g_iload1 dX5_documentAt_29 ?_
  refine g_callV1 kc0 (hK.ctGet hr3 hj) md_Jx4a65c_get_915e3 dX5_documentAt_30 ml_X5_126 im_Jx4a65c_get_915e3 se_Jx4a65c_get_915e3 (hK.g3 hr3) (RmOk.of (Nat.le_of_ble_eq_true rfl) (Nat.le_of_ble_eq_true rfl) (Nat.le_of_ble_eq_true rfl) (Nat.le_of_ble_eq_true rfl) (Nat.le_of_ble_eq_true rfl)) (kr_V ?_) kx_V
  refine g_cast kc1 dX5_documentAt_33 cl_X5_150 (hK.g8 (hK.cl.el 2 j hr3 hj)) ?_
  refine g_aret (Or.inl ⟨_, rfl⟩) dX5_documentAt_36 ?_ (Nat.le_of_ble_eq_true rfl) (Nat.le_of_ble_eq_true rfl)
  exact ⟨rfl, rfl⟩

set_option maxRecDepth 100000 in
theorem ct_docAt_no {G : Gx} {X : Nat → Prop} {w0 w : Wd} {S : KS} (hK : Kl G X w0 S w) {v : Int32} (h : inb v 0 (nI (S.ln 2) - 1) = false) : Ct G yX5_documentAt kw_X5_documentAt rm_X5_documentAt [.ref (S.ad 0 0), .int v] w (PX "java/lang/IndexOutOfBoundsException" w) := by
  have hr3 : 2 < S.nn 3 := by have := hK.u3; omega
  have hln : S.ln 2 ≤ 200 := by have := hK.cl.cp _ hr3; omega
  refine ct_intro RX5 "documentAt" (by decide +kernel) rfl rfl rfl (Nat.le_of_ble_eq_true rfl) [some (.ref (S.ad 0 0)), some (.int v)] rfl (fun C => ?_)
  refine g_iload1 dX5_documentAt_0 ?_
  refine g_if_lt (tgt := 15) dX5_documentAt_1 (by decide) (fun h1 => ?_) (fun h1 => ?_)
  · skip
    refine g_throwS tw_X5_176_233_180 dX5_documentAt_15 dX5_documentAt_18 dX5_documentAt_19 dX5_documentAt_21 dX5_documentAt_24 (fun _ h => nomatch h) (Nat.le_of_ble_eq_true rfl) (Nat.le_of_ble_eq_true rfl) ?_ (Nat.le_of_ble_eq_true rfl) (Nat.le_of_ble_eq_true rfl)
    exact ⟨rfl, rfl⟩
  · skip
    refine g_iload1 dX5_documentAt_4 ?_
    refine g_aload0 dX5_documentAt_5 ?_
    refine g_getf kc6 dX5_documentAt_6 fl_X5_42 (by decide) hK.g0 rfl ?_
    refine g_callV0 kc0 (hK.ctSize hr3) md_Jx4a65c_size_8abf5 dX5_documentAt_9 ml_X5_85 im_Jx4a65c_size_8abf5 se_Jx4a65c_size_8abf5 (hK.g3 hr3) (RmOk.of (Nat.le_of_ble_eq_true rfl) (Nat.le_of_ble_eq_true rfl) (Nat.le_of_ble_eq_true rfl) (Nat.le_of_ble_eq_true rfl) (Nat.le_of_ble_eq_true rfl)) (kr_V ?_) kx_V
    refine g_icmp_lt_f (tgt := 25) dX5_documentAt_12 (by decide) (out_n (by omega) h h1) ?_
    refine g_throwS tw_X5_176_233_180 dX5_documentAt_15 dX5_documentAt_18 dX5_documentAt_19 dX5_documentAt_21 dX5_documentAt_24 (fun _ h => nomatch h) (Nat.le_of_ble_eq_true rfl) (Nat.le_of_ble_eq_true rfl) ?_ (Nat.le_of_ble_eq_true rfl) (Nat.le_of_ble_eq_true rfl)
    exact ⟨rfl, rfl⟩

abbrev rm_X5_readerAt : Room := { frames := 6, cells := 1, slots := 6, locals := 82 }

set_option maxRecDepth 100000 in
theorem ct_rdrAt_ok {G : Gx} {X : Nat → Prop} {w0 w : Wd} {S : KS} (hK : Kl G X w0 S w) {j : Nat} (hj : j < S.ln 3) : Ct G yX5_readerAt kw_X5_readerAt rm_X5_readerAt [.ref (S.ad 0 0), .int (nI j)] w (PV (.ref (S.ad 9 j)) w) := by
  have hr3 : 3 < S.nn 3 := by have := hK.u3; omega
  have hln : S.ln 3 ≤ 200 := by have := hK.cl.cp _ hr3; omega
  refine ct_intro RX5 "readerAt" (by decide +kernel) rfl rfl rfl (Nat.le_of_ble_eq_true rfl) [some (.ref (S.ad 0 0)), some (.int (nI j))] rfl (fun C => ?_)
  refine g_iload1 dX5_readerAt_0 ?_
  refine g_if_lt_f (tgt := 15) dX5_readerAt_1 (by decide) (nI_pos (by omega)) ?_
  refine g_iload1 dX5_readerAt_4 ?_
  refine g_aload0 dX5_readerAt_5 ?_
  refine g_getf kc6 dX5_readerAt_6 fl_X5_45 (by decide) hK.g0 rfl ?_
  refine g_callV0 kc0 (hK.ctSize hr3) md_Jx4a65c_size_8abf5 dX5_readerAt_9 ml_X5_85 im_Jx4a65c_size_8abf5 se_Jx4a65c_size_8abf5 (hK.g3 hr3) (RmOk.of (Nat.le_of_ble_eq_true rfl) (Nat.le_of_ble_eq_true rfl) (Nat.le_of_ble_eq_true rfl) (Nat.le_of_ble_eq_true rfl) (Nat.le_of_ble_eq_true rfl)) (kr_V ?_) kx_V
  refine g_icmp_lt_t (tgt := 25) dX5_readerAt_12 (by decide) (nI_lt hj (by omega)) ?_
  refine g_aload0 dX5_readerAt_25 ?_
  refine g_getf kc6 dX5_readerAt_26 fl_X5_45 (by decide) hK.g0 rfl ?_
  refine g_iload1 dX5_readerAt_29 ?_
  refine g_callV1 kc0 (hK.ctGet hr3 hj) md_Jx4a65c_get_915e3 dX5_readerAt_30 ml_X5_126 im_Jx4a65c_get_915e3 se_Jx4a65c_get_915e3 (hK.g3 hr3) (RmOk.of (Nat.le_of_ble_eq_true rfl) (Nat.le_of_ble_eq_true rfl) (Nat.le_of_ble_eq_true rfl) (Nat.le_of_ble_eq_true rfl) (Nat.le_of_ble_eq_true rfl)) (kr_V ?_) kx_V
  refine g_cast kc4 dX5_readerAt_33 cl_X5_56 (hK.g9 (hK.cl.el 3 j hr3 hj)) ?_
  refine g_aret (Or.inl ⟨_, rfl⟩) dX5_readerAt_36 ?_ (Nat.le_of_ble_eq_true rfl) (Nat.le_of_ble_eq_true rfl)
  exact ⟨rfl, rfl⟩

set_option maxRecDepth 100000 in
theorem ct_rdrAt_no {G : Gx} {X : Nat → Prop} {w0 w : Wd} {S : KS} (hK : Kl G X w0 S w) {v : Int32} (h : inb v 0 (nI (S.ln 3) - 1) = false) : Ct G yX5_readerAt kw_X5_readerAt rm_X5_readerAt [.ref (S.ad 0 0), .int v] w (PX "java/lang/IllegalArgumentException" w) := by
  have hr3 : 3 < S.nn 3 := by have := hK.u3; omega
  have hln : S.ln 3 ≤ 200 := by have := hK.cl.cp _ hr3; omega
  refine ct_intro RX5 "readerAt" (by decide +kernel) rfl rfl rfl (Nat.le_of_ble_eq_true rfl) [some (.ref (S.ad 0 0)), some (.int v)] rfl (fun C => ?_)
  refine g_iload1 dX5_readerAt_0 ?_
  refine g_if_lt (tgt := 15) dX5_readerAt_1 (by decide) (fun h1 => ?_) (fun h1 => ?_)
  · skip
    refine g_throwS tw_X5_211_241_215 dX5_readerAt_15 dX5_readerAt_18 dX5_readerAt_19 dX5_readerAt_21 dX5_readerAt_24 (fun _ h => nomatch h) (Nat.le_of_ble_eq_true rfl) (Nat.le_of_ble_eq_true rfl) ?_ (Nat.le_of_ble_eq_true rfl) (Nat.le_of_ble_eq_true rfl)
    exact ⟨rfl, rfl⟩
  · skip
    refine g_iload1 dX5_readerAt_4 ?_
    refine g_aload0 dX5_readerAt_5 ?_
    refine g_getf kc6 dX5_readerAt_6 fl_X5_45 (by decide) hK.g0 rfl ?_
    refine g_callV0 kc0 (hK.ctSize hr3) md_Jx4a65c_size_8abf5 dX5_readerAt_9 ml_X5_85 im_Jx4a65c_size_8abf5 se_Jx4a65c_size_8abf5 (hK.g3 hr3) (RmOk.of (Nat.le_of_ble_eq_true rfl) (Nat.le_of_ble_eq_true rfl) (Nat.le_of_ble_eq_true rfl) (Nat.le_of_ble_eq_true rfl) (Nat.le_of_ble_eq_true rfl)) (kr_V ?_) kx_V
    refine g_icmp_lt_f (tgt := 25) dX5_readerAt_12 (by decide) (out_n (by omega) h h1) ?_
    refine g_throwS tw_X5_211_241_215 dX5_readerAt_15 dX5_readerAt_18 dX5_readerAt_19 dX5_readerAt_21 dX5_readerAt_24 (fun _ h => nomatch h) (Nat.le_of_ble_eq_true rfl) (Nat.le_of_ble_eq_true rfl) ?_ (Nat.le_of_ble_eq_true rfl) (Nat.le_of_ble_eq_true rfl)
    exact ⟨rfl, rfl⟩

abbrev rm_X5_pageOf : Room := { frames := 8, cells := 1, slots := 6, locals := 124 }

set_option maxRecDepth 100000 in
theorem ct_pageOf_ok {G : Gx} {X : Nat → Prop} {w0 w : Wd} {S : KS} (hK : Kl G X w0 S w) {d : Nat} (hd : d < S.nn 8) {f n : Nat} (hf : S.dI d 0 = nI f) (hn : S.dI d 3 = nI n) (hfn : f + n ≤ S.ln (S.dR d + 4)) {j : Nat} (hj : j < n) : Ct G yX5_pageOf kw_X5_pageOf rm_X5_pageOf [.ref (S.ad 8 d), .int (nI j)] w (PV (.ref (S.ad 6 (S.rF (S.dR d) + (f + j)))) w) := by
  have hr := hK.cl.dR d hd
  have hr3 : S.dR d + 4 < S.nn 3 := by have := hK.u3; omega
  have hln : S.ln (S.dR d + 4) ≤ 200 := by have := hK.cl.cp _ hr3; omega
  refine ct_intro RX5 "pageOf" (by decide +kernel) rfl rfl rfl (Nat.le_of_ble_eq_true rfl) [some (.ref (S.ad 8 d)), some (.int (nI j))] rfl (fun C => ?_)
  refine g_iload1 dX5_pageOf_0 ?_
  refine g_if_lt_f (tgt := 12) dX5_pageOf_1 (by decide) (nI_pos (by omega)) ?_
  refine g_iload1 dX5_pageOf_4 ?_
  refine g_aload0 dX5_pageOf_5 ?_
  refine g_getf kc1 dX5_pageOf_6 fl_X5_161 (by decide) (hK.g8 hd) rfl ?_
  refine g_icmp_lt_t (tgt := 22) dX5_pageOf_9 (by decide) (by rw [hn]; exact nI_lt hj (by omega)) ?_
  refine g_aload0 dX5_pageOf_22 ?_
  refine g_getf kc1 dX5_pageOf_23 fl_X5_235 (by decide) (hK.g8 hd) rfl ?_
  refine g_aload0 dX5_pageOf_26 ?_
  refine g_getf kc1 dX5_pageOf_27 fl_X5_238 (by decide) (hK.g8 hd) rfl ?_
  refine g_iload1 dX5_pageOf_30 ?_
  refine g_iadd dX5_pageOf_31 ?_
  rw [hf, nI_add]
  refine g_callS2 (ct_pageAt_ok hK hr (show f + j < _ by omega)) md_X5_pageAt dX5_pageOf_32 ml_X5_141 st_X5_pageAt (RmOk.of (Nat.le_of_ble_eq_true rfl) (Nat.le_of_ble_eq_true rfl) (Nat.le_of_ble_eq_true rfl) (Nat.le_of_ble_eq_true rfl) (Nat.le_of_ble_eq_true rfl)) (kr_V ?_) kx_V
  refine g_aret (Or.inl ⟨_, rfl⟩) dX5_pageOf_35 ?_ (Nat.le_of_ble_eq_true rfl) (Nat.le_of_ble_eq_true rfl)
  exact ⟨rfl, rfl⟩

set_option maxRecDepth 100000 in
theorem ct_pageOf_no {G : Gx} {X : Nat → Prop} {w0 w : Wd} {S : KS} (hK : Kl G X w0 S w) {d : Nat} (hd : d < S.nn 8) {f n : Nat} (hf : S.dI d 0 = nI f) (hn : S.dI d 3 = nI n) (hfn : f + n ≤ S.ln (S.dR d + 4)) {v : Int32} (h : inb v 0 (nI n - 1) = false) : Ct G yX5_pageOf kw_X5_pageOf rm_X5_pageOf [.ref (S.ad 8 d), .int v] w (PX "java/lang/IndexOutOfBoundsException" w) := by
  have hr := hK.cl.dR d hd
  have hr3 : S.dR d + 4 < S.nn 3 := by have := hK.u3; omega
  have hln : S.ln (S.dR d + 4) ≤ 200 := by have := hK.cl.cp _ hr3; omega
  refine ct_intro RX5 "pageOf" (by decide +kernel) rfl rfl rfl (Nat.le_of_ble_eq_true rfl) [some (.ref (S.ad 8 d)), some (.int v)] rfl (fun C => ?_)
  refine g_iload1 dX5_pageOf_0 ?_
  refine g_if_lt (tgt := 12) dX5_pageOf_1 (by decide) (fun h1 => ?_) (fun h1 => ?_)
  · skip
    refine g_throwS tw_X5_176_229_180 dX5_pageOf_12 dX5_pageOf_15 dX5_pageOf_16 dX5_pageOf_18 dX5_pageOf_21 (fun _ h => nomatch h) (Nat.le_of_ble_eq_true rfl) (Nat.le_of_ble_eq_true rfl) ?_ (Nat.le_of_ble_eq_true rfl) (Nat.le_of_ble_eq_true rfl)
    exact ⟨rfl, rfl⟩
  · skip
    refine g_iload1 dX5_pageOf_4 ?_
    refine g_aload0 dX5_pageOf_5 ?_
    refine g_getf kc1 dX5_pageOf_6 fl_X5_161 (by decide) (hK.g8 hd) rfl ?_
    refine g_icmp_lt_f (tgt := 22) dX5_pageOf_9 (by decide) (by rw [hn]; exact out_n (by omega) h h1) ?_
    refine g_throwS tw_X5_176_229_180 dX5_pageOf_12 dX5_pageOf_15 dX5_pageOf_16 dX5_pageOf_18 dX5_pageOf_21 (fun _ h => nomatch h) (Nat.le_of_ble_eq_true rfl) (Nat.le_of_ble_eq_true rfl) ?_ (Nat.le_of_ble_eq_true rfl) (Nat.le_of_ble_eq_true rfl)
    exact ⟨rfl, rfl⟩

def isK (n : Nat) (k : Int32) : Bool := !decide (k < 0) && !decide (nI n ≤ k)
theorem isK_t {n : Nat} {k : Int32} (h : isK n k = true) : ¬ k < 0 ∧ ¬ nI n ≤ k := by simpa [isK] using h
theorem isK_in {n : Nat} {k : Int32} (hn : n < 2 ^ 31) (h : isK n k = true) : vp_in k n := by
  obtain ⟨j, hj, rfl⟩ := nI_of (isK_t h).1
  exact vp_in_nI (idx_lt hj hn (isK_t h).2) hn
theorem isK_nI {n j : Nat} (hj : j < n) (hn : n < 2 ^ 31) : isK n (nI j) = true := by
  unfold isK
  rw [decide_eq_false (nI_pos (by omega)), decide_eq_false (nI_ge hj hn)]
  rfl

abbrev rm_X5_isKind : Room := { frames := 0, cells := 0, slots := 0, locals := 0 }

set_option maxRecDepth 100000 in
theorem ct_isKind {G : Gx} {X : Nat → Prop} {w0 w : Wd} {S : KS} (hK : Kl G X w0 S w) {k : Int32} : Ct G yX5_isKind kw_X5_isKind rm_X5_isKind [.ref (S.ad 0 0), .int k] w (PV (.int (bI (isK 4 k))) w) := by
  refine ct_intro RX5 "isKind" (by decide +kernel) rfl rfl rfl (Nat.le_of_ble_eq_true rfl) [some (.ref (S.ad 0 0)), some (.int k)] rfl (fun C => ?_)
  refine g_iload1 dX5_isKind_0 ?_
  refine g_if_lt (tgt := 17) dX5_isKind_1 (by decide) (fun h1 => ?_) (fun h1 => ?_)
  · skip
    refine g_iconst (v := 0) dX5_isKind_17 (by decide) ?_
    refine g_zret dX5_isKind_18 (by decide) ?_ (Nat.le_of_ble_eq_true rfl) (Nat.le_of_ble_eq_true rfl)
    first
      | exact ⟨by unfold isK; rw [decide_eq_true h1]; rfl, rfl⟩
      | exact ⟨by unfold isK; rw [decide_eq_false h1, decide_eq_true h10]; rfl, rfl⟩
      | exact ⟨by unfold isK; rw [decide_eq_false h1, decide_eq_false h10]; rfl, rfl⟩
  · skip
    refine g_iload1 dX5_isKind_4 ?_
    refine g_aload0 dX5_isKind_5 ?_
    refine g_getf kc6 dX5_isKind_6 fl_X5_48 (by decide) hK.g0 rfl ?_
    refine g_alenI dX5_isKind_9 hK.g10 ?_
    refine g_icmp_ge (tgt := 17) dX5_isKind_10 (by decide) (fun h10 => ?_) (fun h10 => ?_)
    · skip
      refine g_iconst (v := 0) dX5_isKind_17 (by decide) ?_
      refine g_zret dX5_isKind_18 (by decide) ?_ (Nat.le_of_ble_eq_true rfl) (Nat.le_of_ble_eq_true rfl)
      first
        | exact ⟨by unfold isK; rw [decide_eq_true h1]; rfl, rfl⟩
        | exact ⟨by unfold isK; rw [decide_eq_false h1, decide_eq_true h10]; rfl, rfl⟩
        | exact ⟨by unfold isK; rw [decide_eq_false h1, decide_eq_false h10]; rfl, rfl⟩
    · skip
      refine g_iconst (v := 1) dX5_isKind_13 (by decide) ?_
      refine g_goto (tgt := 18) dX5_isKind_14 (by decide) ?_
      refine g_zret dX5_isKind_18 (by decide) ?_ (Nat.le_of_ble_eq_true rfl) (Nat.le_of_ble_eq_true rfl)
      first
        | exact ⟨by unfold isK; rw [decide_eq_true h1]; rfl, rfl⟩
        | exact ⟨by unfold isK; rw [decide_eq_false h1, decide_eq_true h10]; rfl, rfl⟩
        | exact ⟨by unfold isK; rw [decide_eq_false h1, decide_eq_false h10]; rfl, rfl⟩

abbrev rm_X5_isAccount : Room := { frames := 0, cells := 0, slots := 0, locals := 0 }

set_option maxRecDepth 100000 in
theorem ct_isAccount {G : Gx} {X : Nat → Prop} {w0 w : Wd} {S : KS} (hK : Kl G X w0 S w) {k : Int32} : Ct G yX5_isAccount kw_X5_isAccount rm_X5_isAccount [.ref (S.ad 0 0), .int k] w (PV (.int (bI (isK 100 k))) w) := by
  refine ct_intro RX5 "isAccount" (by decide +kernel) rfl rfl rfl (Nat.le_of_ble_eq_true rfl) [some (.ref (S.ad 0 0)), some (.int k)] rfl (fun C => ?_)
  refine g_iload1 dX5_isAccount_0 ?_
  refine g_if_lt (tgt := 17) dX5_isAccount_1 (by decide) (fun h1 => ?_) (fun h1 => ?_)
  · skip
    refine g_iconst (v := 0) dX5_isAccount_17 (by decide) ?_
    refine g_zret dX5_isAccount_18 (by decide) ?_ (Nat.le_of_ble_eq_true rfl) (Nat.le_of_ble_eq_true rfl)
    first
      | exact ⟨by unfold isK; rw [decide_eq_true h1]; rfl, rfl⟩
      | exact ⟨by unfold isK; rw [decide_eq_false h1, decide_eq_true h10]; rfl, rfl⟩
      | exact ⟨by unfold isK; rw [decide_eq_false h1, decide_eq_false h10]; rfl, rfl⟩
  · skip
    refine g_iload1 dX5_isAccount_4 ?_
    refine g_aload0 dX5_isAccount_5 ?_
    refine g_getf kc6 dX5_isAccount_6 fl_X5_52 (by decide) hK.g0 rfl ?_
    refine g_alenZ dX5_isAccount_9 hK.g11 ?_
    refine g_icmp_ge (tgt := 17) dX5_isAccount_10 (by decide) (fun h10 => ?_) (fun h10 => ?_)
    · skip
      refine g_iconst (v := 0) dX5_isAccount_17 (by decide) ?_
      refine g_zret dX5_isAccount_18 (by decide) ?_ (Nat.le_of_ble_eq_true rfl) (Nat.le_of_ble_eq_true rfl)
      first
        | exact ⟨by unfold isK; rw [decide_eq_true h1]; rfl, rfl⟩
        | exact ⟨by unfold isK; rw [decide_eq_false h1, decide_eq_true h10]; rfl, rfl⟩
        | exact ⟨by unfold isK; rw [decide_eq_false h1, decide_eq_false h10]; rfl, rfl⟩
    · skip
      refine g_iconst (v := 1) dX5_isAccount_13 (by decide) ?_
      refine g_goto (tgt := 18) dX5_isAccount_14 (by decide) ?_
      refine g_zret dX5_isAccount_18 (by decide) ?_ (Nat.le_of_ble_eq_true rfl) (Nat.le_of_ble_eq_true rfl)
      first
        | exact ⟨by unfold isK; rw [decide_eq_true h1]; rfl, rfl⟩
        | exact ⟨by unfold isK; rw [decide_eq_false h1, decide_eq_true h10]; rfl, rfl⟩
        | exact ⟨by unfold isK; rw [decide_eq_false h1, decide_eq_false h10]; rfl, rfl⟩

def ovC (S : KS) (d : Nat) : Bool := isK 4 (S.dI d 2) && !decide (S.day ≤ S.rD (S.dR d) + S.sp (S.dI d 2).toNatClampNeg)
def hdC (S : KS) (d : Nat) : Bool := isK 100 (S.dI d 1) && !decide (S.he (S.dI d 1).toNatClampNeg = 0)

abbrev rm_X5_isOver : Room := { frames := 1, cells := 0, slots := 0, locals := 21 }

set_option maxRecDepth 100000 in
theorem ct_isOver {G : Gx} {X : Nat → Prop} {w0 w : Wd} {S : KS} (hK : Kl G X w0 S w) {d : Nat} (hd : d < S.nn 8) : Ct G yX5_isOver kw_X5_isOver rm_X5_isOver [.ref (S.ad 0 0), .ref (S.ad 8 d)] w (PV (.int (bI (ovC S d))) w) := by
  refine ct_intro RX5 "isOver" (by decide +kernel) rfl rfl rfl (Nat.le_of_ble_eq_true rfl) [some (.ref (S.ad 0 0)), some (.ref (S.ad 8 d))] rfl (fun C => ?_)
  refine g_aload0 dX5_isOver_0 ?_
  refine g_aload1 dX5_isOver_1 ?_
  refine g_getf kc1 dX5_isOver_2 fl_X5_158 (by decide) (hK.g8 hd) rfl ?_
  refine g_callV1 kc6 (ct_isKind hK) md_X5_isKind dX5_isOver_5 ml_X5_208 im_X5_isKind se_X5_isKind hK.g0 (RmOk.of (Nat.le_of_ble_eq_true rfl) (Nat.le_of_ble_eq_true rfl) (Nat.le_of_ble_eq_true rfl) (Nat.le_of_ble_eq_true rfl) (Nat.le_of_ble_eq_true rfl)) (kr_V ?_) kx_V
  refine g_if_eq (tgt := 39) dX5_isOver_8 (by decide) (fun h8 => ?_) (fun h8 => ?_)
  · skip
    refine g_iconst (v := 0) dX5_isOver_39 (by decide) ?_
    refine g_zret dX5_isOver_40 (by decide) ?_ (Nat.le_of_ble_eq_true rfl) (Nat.le_of_ble_eq_true rfl)
    first
      | exact ⟨by unfold ovC; rw [bI_0.mp h8]; rfl, rfl⟩
      | exact ⟨by unfold ovC; rw [bI_n.mp h8, decide_eq_true h32]; rfl, rfl⟩
      | exact ⟨by unfold ovC; rw [bI_n.mp h8, decide_eq_false h32]; rfl, rfl⟩
  · skip
    refine g_aload0 dX5_isOver_11 ?_
    refine g_getf kc6 dX5_isOver_12 fl_X5_74 (by decide) hK.g0 rfl ?_
    refine g_aload1 dX5_isOver_15 ?_
    refine g_getf kc1 dX5_isOver_16 fl_X5_235 (by decide) (hK.g8 hd) rfl ?_
    refine g_getf kc5 dX5_isOver_19 fl_X5_243 (by decide) (hK.g5 (hK.cl.dR d hd)) rfl ?_
    refine g_aload0 dX5_isOver_22 ?_
    refine g_getf kc6 dX5_isOver_23 fl_X5_48 (by decide) hK.g0 rfl ?_
    refine g_aload1 dX5_isOver_26 ?_
    refine g_getf kc1 dX5_isOver_27 fl_X5_158 (by decide) (hK.g8 hd) rfl ?_
    refine g_iald dX5_isOver_30 hK.g10 (isK_in (by decide) (bI_n.mp h8)) ?_
    refine g_iadd dX5_isOver_31 ?_
    refine g_icmp_le (tgt := 39) dX5_isOver_32 (by decide) (fun h32 => ?_) (fun h32 => ?_)
    · skip
      refine g_iconst (v := 0) dX5_isOver_39 (by decide) ?_
      refine g_zret dX5_isOver_40 (by decide) ?_ (Nat.le_of_ble_eq_true rfl) (Nat.le_of_ble_eq_true rfl)
      first
        | exact ⟨by unfold ovC; rw [bI_0.mp h8]; rfl, rfl⟩
        | exact ⟨by unfold ovC; rw [bI_n.mp h8, decide_eq_true h32]; rfl, rfl⟩
        | exact ⟨by unfold ovC; rw [bI_n.mp h8, decide_eq_false h32]; rfl, rfl⟩
    · skip
      refine g_iconst (v := 1) dX5_isOver_35 (by decide) ?_
      refine g_goto (tgt := 40) dX5_isOver_36 (by decide) ?_
      refine g_zret dX5_isOver_40 (by decide) ?_ (Nat.le_of_ble_eq_true rfl) (Nat.le_of_ble_eq_true rfl)
      first
        | exact ⟨by unfold ovC; rw [bI_0.mp h8]; rfl, rfl⟩
        | exact ⟨by unfold ovC; rw [bI_n.mp h8, decide_eq_true h32]; rfl, rfl⟩
        | exact ⟨by unfold ovC; rw [bI_n.mp h8, decide_eq_false h32]; rfl, rfl⟩

abbrev rm_X5_isHeld : Room := { frames := 1, cells := 0, slots := 0, locals := 21 }

set_option maxRecDepth 100000 in
theorem ct_isHeld {G : Gx} {X : Nat → Prop} {w0 w : Wd} {S : KS} (hK : Kl G X w0 S w) {d : Nat} (hd : d < S.nn 8) : Ct G yX5_isHeld kw_X5_isHeld rm_X5_isHeld [.ref (S.ad 0 0), .ref (S.ad 8 d)] w (PV (.int (bI (hdC S d))) w) := by
  refine ct_intro RX5 "isHeld" (by decide +kernel) rfl rfl rfl (Nat.le_of_ble_eq_true rfl) [some (.ref (S.ad 0 0)), some (.ref (S.ad 8 d))] rfl (fun C => ?_)
  refine g_aload0 dX5_isHeld_0 ?_
  refine g_aload1 dX5_isHeld_1 ?_
  refine g_getf kc1 dX5_isHeld_2 fl_X5_155 (by decide) (hK.g8 hd) rfl ?_
  refine g_callV1 kc6 (ct_isAccount hK) md_X5_isAccount dX5_isHeld_5 ml_X5_216 im_X5_isAccount se_X5_isAccount hK.g0 (RmOk.of (Nat.le_of_ble_eq_true rfl) (Nat.le_of_ble_eq_true rfl) (Nat.le_of_ble_eq_true rfl) (Nat.le_of_ble_eq_true rfl) (Nat.le_of_ble_eq_true rfl)) (kr_V ?_) kx_V
  refine g_if_eq (tgt := 27) dX5_isHeld_8 (by decide) (fun h8 => ?_) (fun h8 => ?_)
  · skip
    refine g_iconst (v := 0) dX5_isHeld_27 (by decide) ?_
    refine g_zret dX5_isHeld_28 (by decide) ?_ (Nat.le_of_ble_eq_true rfl) (Nat.le_of_ble_eq_true rfl)
    first
      | exact ⟨by unfold hdC; rw [bI_0.mp h8]; rfl, rfl⟩
      | exact ⟨by unfold hdC; rw [bI_n.mp h8, decide_eq_true h20]; rfl, rfl⟩
      | exact ⟨by unfold hdC; rw [bI_n.mp h8, decide_eq_false h20]; rfl, rfl⟩
  · skip
    refine g_aload0 dX5_isHeld_11 ?_
    refine g_getf kc6 dX5_isHeld_12 fl_X5_52 (by decide) hK.g0 rfl ?_
    refine g_aload1 dX5_isHeld_15 ?_
    refine g_getf kc1 dX5_isHeld_16 fl_X5_155 (by decide) (hK.g8 hd) rfl ?_
    refine g_zald dX5_isHeld_19 hK.g11 (isK_in (by decide) (bI_n.mp h8)) ?_
    refine g_if_eq (tgt := 27) dX5_isHeld_20 (by decide) (fun h20 => ?_) (fun h20 => ?_)
    · skip
      refine g_iconst (v := 0) dX5_isHeld_27 (by decide) ?_
      refine g_zret dX5_isHeld_28 (by decide) ?_ (Nat.le_of_ble_eq_true rfl) (Nat.le_of_ble_eq_true rfl)
      first
        | exact ⟨by unfold hdC; rw [bI_0.mp h8]; rfl, rfl⟩
        | exact ⟨by unfold hdC; rw [bI_n.mp h8, decide_eq_true h20]; rfl, rfl⟩
        | exact ⟨by unfold hdC; rw [bI_n.mp h8, decide_eq_false h20]; rfl, rfl⟩
    · skip
      refine g_iconst (v := 1) dX5_isHeld_23 (by decide) ?_
      refine g_goto (tgt := 28) dX5_isHeld_24 (by decide) ?_
      refine g_zret dX5_isHeld_28 (by decide) ?_ (Nat.le_of_ble_eq_true rfl) (Nat.le_of_ble_eq_true rfl)
      first
        | exact ⟨by unfold hdC; rw [bI_0.mp h8]; rfl, rfl⟩
        | exact ⟨by unfold hdC; rw [bI_n.mp h8, decide_eq_true h20]; rfl, rfl⟩
        | exact ⟨by unfold hdC; rw [bI_n.mp h8, decide_eq_false h20]; rfl, rfl⟩

abbrev rm_X5_kindOf : Room := { frames := 2, cells := 0, slots := 0, locals := 42 }

def kdC (n : Nat) (g : Nat → Int32) (kl : Int32) : Int32 := if hasB (nI n) kl = true then g kl.toNatClampNeg - g kl.toNatClampNeg / 4 * 4 else 0

set_option maxRecDepth 100000 in
theorem ct_kindOf {G : Gx} {w : Wd} {p v q n : Nat} {cop dy la ka : Int32} {g : Nat → Int32} (hp : w p = some (ePg v (nI n) cop)) (hv : w v = some (eI G 8 g)) (hq : w q = some (eFm dy la ka)) : Ct G yX5_kindOf kw_X5_kindOf rm_X5_kindOf [.ref p, .ref q] w (PV (.int (kdC n g ka)) w) := by
  refine ct_intro RX5 "kindOf" (by decide +kernel) rfl rfl rfl (Nat.le_of_ble_eq_true rfl) [some (.ref p), some (.ref q)] rfl (fun C => ?_)
  refine g_aload0 dX5_kindOf_0 ?_
  refine g_aload1 dX5_kindOf_1 ?_
  refine g_getf kc2 dX5_kindOf_2 fl_X5_262 (by decide) hq rfl ?_
  refine g_callVN1 kc3 (ct_has hp hv) md_X2_has dX5_kindOf_5 ml_X5_185 im_X2_has se_X2_has hp (RmOk.of (Nat.le_of_ble_eq_true rfl) (Nat.le_of_ble_eq_true rfl) (Nat.le_of_ble_eq_true rfl) (Nat.le_of_ble_eq_true rfl) (Nat.le_of_ble_eq_true rfl)) (kr_V ?_) kn_V
  refine g_if_eq (tgt := 24) dX5_kindOf_8 (by decide) (fun h8 => ?_) (fun h8 => ?_)
  · skip
    refine g_iconst (v := 0) dX5_kindOf_24 (by decide) ?_
    refine g_iret dX5_kindOf_25 ?_ (Nat.le_of_ble_eq_true rfl) (Nat.le_of_ble_eq_true rfl)
    first
      | exact ⟨by unfold kdC; rw [bI_0.mp h8]; rfl, rfl⟩
      | exact ⟨by unfold kdC; rw [if_pos (bI_n.mp h8)], rfl⟩
  · skip
    refine g_aload0 dX5_kindOf_11 ?_
    refine g_aload1 dX5_kindOf_12 ?_
    refine g_getf kc2 dX5_kindOf_13 fl_X5_262 (by decide) hq rfl ?_
    refine g_callVN1 kc3 (ct_valueAt hp hv) md_X2_valueAt dX5_kindOf_16 ml_X5_198 im_X2_valueAt se_X2_valueAt hp (RmOk.of (Nat.le_of_ble_eq_true rfl) (Nat.le_of_ble_eq_true rfl) (Nat.le_of_ble_eq_true rfl) (Nat.le_of_ble_eq_true rfl) (Nat.le_of_ble_eq_true rfl)) (kr_V ?_) kn_V
    rw [if_pos (bI_n.mp h8)]
    refine g_iconst (v := 4) dX5_kindOf_19 (by decide) ?_
    refine g_irem dX5_kindOf_20 (by decide) ?_
    refine g_goto (tgt := 25) dX5_kindOf_21 (by decide) ?_
    refine g_iret dX5_kindOf_25 ?_ (Nat.le_of_ble_eq_true rfl) (Nat.le_of_ble_eq_true rfl)
    first
      | exact ⟨by unfold kdC; rw [bI_0.mp h8]; rfl, rfl⟩
      | exact ⟨by unfold kdC; rw [if_pos (bI_n.mp h8)], rfl⟩

abbrev rm_X5_formatOn : Room := { frames := 3, cells := 0, slots := 0, locals := 64 }

def fAd (S : KS) : Option Nat → Nat
  | none => S.ad 1 0
  | some g => S.ad 2 g
def fVl (S : KS) (k : Nat) : Option Nat → Int32
  | none => if k = 2 then 1 else 0
  | some g => S.fm g k
def fOn (S : KS) (dy : Int32) (n : Nat) : Option Nat := fmS (fun _ j => S.fm j 0) dy n
theorem fOn_g {G : Gx} {X : Nat → Prop} {w0 w : Wd} {S : KS} (hK : Kl G X w0 S w) (dy : Int32) {n : Nat} (hn : n ≤ S.nn 2) : w (fAd S (fOn S dy n)) = some (eFm (fVl S 0 (fOn S dy n)) (fVl S 1 (fOn S dy n)) (fVl S 2 (fOn S dy n))) := by
  cases h : fOn S dy n with
  | none => exact hK.g1 (by rw [hK.cl.c0.2.1]; decide)
  | some g => exact hK.g2 (Nat.lt_of_lt_of_le (fmS_lt h) hn)
theorem fOn_s {S : KS} {dy : Int32} {i : Nat} (hp : 0 ≤ S.fm i 0) : fOn S dy (i + 1) = if S.fm i 0 ≤ dy ∧ fVl S 0 (fOn S dy i) ≤ S.fm i 0 then some i else fOn S dy i := by
  show (if (decide (S.fm i 0 ≤ dy) && (match fOn S dy i with | none => true | some g => decide (S.fm g 0 ≤ S.fm i 0))) = true then some i else fOn S dy i) = _
  cases h : fOn S dy i with
  | none =>
    show (if (decide (S.fm i 0 ≤ dy) && true) = true then some i else none) = if S.fm i 0 ≤ dy ∧ (0 : Int32) ≤ S.fm i 0 then some i else none
    by_cases h1 : S.fm i 0 ≤ dy
    · rw [decide_eq_true h1, if_pos (show (true && true) = true from rfl), if_pos ⟨h1, hp⟩]
    · rw [decide_eq_false h1, if_neg (by decide), if_neg (fun z => h1 z.1)]
  | some g =>
    show (if (decide (S.fm i 0 ≤ dy) && decide (S.fm g 0 ≤ S.fm i 0)) = true then some i else some g) = if S.fm i 0 ≤ dy ∧ S.fm g 0 ≤ S.fm i 0 then some i else some g
    by_cases h1 : S.fm i 0 ≤ dy
    · by_cases h2 : S.fm g 0 ≤ S.fm i 0
      · rw [decide_eq_true h1, decide_eq_true h2, if_pos (show (true && true) = true from rfl), if_pos ⟨h1, h2⟩]
      · rw [decide_eq_true h1, decide_eq_false h2, if_neg (by decide), if_neg (fun z => h2 z.2)]
    · rw [decide_eq_false h1, if_neg (by simp), if_neg (fun z => h1 z.1)]

set_option maxRecDepth 100000 in
theorem lp_formatOn {G : Gx} {X : Nat → Prop} {w0 w : Wd} {S : KS} (hK : Kl G X w0 S w) (hr3 : 0 < S.nn 3) (hln : S.ln 0 ≤ 200) (hn2 : S.ln 0 ≤ S.nn 2) (hp : ∀ i, i < S.ln 0 → 0 ≤ S.fm i 0) {dy : Int32} (C : Cx) : ∀ (M i : Nat) (x4 : Option Value), S.ln 0 - i < M → i ≤ S.ln 0 →
    Go G rm_X5_formatOn cX5_formatOn RX5 (some (.object "PrintKeeper$Format"), "formatOn", []) C (QP G rm_X5_formatOn (PV (.ref (fAd S (fOn S dy (S.ln 0)))) w) C) 7 [some (.ref (S.ad 0 0)), some (.int dy), some (.ref (fAd S (fOn S dy i))), some (.int (nI i)), x4] [] w 0 0 := by
  intro M
  induction M with
  | zero => intro i x4 hM9; exact absurd hM9 (Nat.not_lt_zero _)
  | succ M ih =>
    intro i x4 hi9 hi
    refine g_iload3 dX5_formatOn_7 ?_
    refine g_aload0 dX5_formatOn_8 ?_
    refine g_getf kc6 dX5_formatOn_9 fl_X5_21 (by decide) hK.g0 rfl ?_
    refine g_callV0 kc0 (hK.ctSize hr3) md_Jx4a65c_size_8abf5 dX5_formatOn_12 ml_X5_85 im_Jx4a65c_size_8abf5 se_Jx4a65c_size_8abf5 (hK.g3 hr3) (RmOk.of (Nat.le_of_ble_eq_true rfl) (Nat.le_of_ble_eq_true rfl) (Nat.le_of_ble_eq_true rfl) (Nat.le_of_ble_eq_true rfl) (Nat.le_of_ble_eq_true rfl)) (kr_V ?_) kx_V
    refine g_icmp_ge (tgt := 61) dX5_formatOn_15 (by decide) (fun h15 => ?_) (fun h15 => ?_)
    · skip
      refine g_aload2 dX5_formatOn_61 ?_
      refine g_aret (Or.inl ⟨_, rfl⟩) dX5_formatOn_62 ?_ (Nat.le_of_ble_eq_true rfl) (Nat.le_of_ble_eq_true rfl)
      exact ⟨by rw [show i = S.ln 0 from Nat.le_antisymm hi (idx_ge (by omega) (by omega) h15)], rfl⟩
    · skip
      have hlt : i < S.ln 0 := idx_lt (by omega) (by omega) h15
      have hi2 : i < S.nn 2 := hK.cl.el 0 i hr3 hlt
      have hst := fOn_s (dy := dy) (hp i hlt)
      refine g_aload0 dX5_formatOn_18 ?_
      refine g_getf kc6 dX5_formatOn_19 fl_X5_21 (by decide) hK.g0 rfl ?_
      refine g_iload3 dX5_formatOn_22 ?_
      refine g_callV1 kc0 (hK.ctGet hr3 hlt) md_Jx4a65c_get_915e3 dX5_formatOn_23 ml_X5_126 im_Jx4a65c_get_915e3 se_Jx4a65c_get_915e3 (hK.g3 hr3) (RmOk.of (Nat.le_of_ble_eq_true rfl) (Nat.le_of_ble_eq_true rfl) (Nat.le_of_ble_eq_true rfl) (Nat.le_of_ble_eq_true rfl) (Nat.le_of_ble_eq_true rfl)) (kr_V ?_) kx_V
      refine g_cast kc2 dX5_formatOn_26 cl_X5_9 (hK.g2 hi2) ?_
      refine g_astore4 dX5_formatOn_29 ?_
      refine g_aload4 dX5_formatOn_31 ?_
      refine g_getf kc2 dX5_formatOn_33 fl_X5_265 (by decide) (hK.g2 hi2) rfl ?_
      refine g_iload1 dX5_formatOn_36 ?_
      refine g_icmp_gt (tgt := 55) dX5_formatOn_37 (by decide) (fun h37 => ?_) (fun h37 => ?_)
      · skip
        refine g_iinc3 (v' := (nI (i + 1))) dX5_formatOn_55 (nI_1 i) ?_
        refine g_goto (tgt := 7) dX5_formatOn_58 (by decide) ?_
        first
          | (have e := hst.trans (if_pos ⟨Int32.not_lt.mp h37, Int32.not_lt.mp h49⟩)
             have h9 := ih (i + 1) (some (.ref (S.ad 2 i))) (by omega) (by omega)
             rw [e] at h9
             exact h9)
          | (have e := hst.trans (if_neg (fun z => absurd z.2 (Int32.not_le.mpr h49)))
             have h9 := ih (i + 1) (some (.ref (S.ad 2 i))) (by omega) (by omega)
             rw [e] at h9
             exact h9)
          | (have e := hst.trans (if_neg (fun z => absurd z.1 (Int32.not_le.mpr h37)))
             have h9 := ih (i + 1) (some (.ref (S.ad 2 i))) (by omega) (by omega)
             rw [e] at h9
             exact h9)
      · skip
        refine g_aload4 dX5_formatOn_40 ?_
        refine g_getf kc2 dX5_formatOn_42 fl_X5_265 (by decide) (hK.g2 hi2) rfl ?_
        refine g_aload2 dX5_formatOn_45 ?_
        refine g_getf kc2 dX5_formatOn_46 fl_X5_265 (by decide) (fOn_g hK dy (show i ≤ S.nn 2 by omega)) rfl ?_
        refine g_icmp_lt (tgt := 55) dX5_formatOn_49 (by decide) (fun h49 => ?_) (fun h49 => ?_)
        · skip
          refine g_iinc3 (v' := (nI (i + 1))) dX5_formatOn_55 (nI_1 i) ?_
          refine g_goto (tgt := 7) dX5_formatOn_58 (by decide) ?_
          first
            | (have e := hst.trans (if_pos ⟨Int32.not_lt.mp h37, Int32.not_lt.mp h49⟩)
               have h9 := ih (i + 1) (some (.ref (S.ad 2 i))) (by omega) (by omega)
               rw [e] at h9
               exact h9)
            | (have e := hst.trans (if_neg (fun z => absurd z.2 (Int32.not_le.mpr h49)))
               have h9 := ih (i + 1) (some (.ref (S.ad 2 i))) (by omega) (by omega)
               rw [e] at h9
               exact h9)
            | (have e := hst.trans (if_neg (fun z => absurd z.1 (Int32.not_le.mpr h37)))
               have h9 := ih (i + 1) (some (.ref (S.ad 2 i))) (by omega) (by omega)
               rw [e] at h9
               exact h9)
        · skip
          refine g_aload4 dX5_formatOn_52 ?_
          refine g_astore2 dX5_formatOn_54 ?_
          refine g_iinc3 (v' := (nI (i + 1))) dX5_formatOn_55 (nI_1 i) ?_
          refine g_goto (tgt := 7) dX5_formatOn_58 (by decide) ?_
          first
            | (have e := hst.trans (if_pos ⟨Int32.not_lt.mp h37, Int32.not_lt.mp h49⟩)
               have h9 := ih (i + 1) (some (.ref (S.ad 2 i))) (by omega) (by omega)
               rw [e] at h9
               exact h9)
            | (have e := hst.trans (if_neg (fun z => absurd z.2 (Int32.not_le.mpr h49)))
               have h9 := ih (i + 1) (some (.ref (S.ad 2 i))) (by omega) (by omega)
               rw [e] at h9
               exact h9)
            | (have e := hst.trans (if_neg (fun z => absurd z.1 (Int32.not_le.mpr h37)))
               have h9 := ih (i + 1) (some (.ref (S.ad 2 i))) (by omega) (by omega)
               rw [e] at h9
               exact h9)

set_option maxRecDepth 100000 in
theorem ct_formatOn {G : Gx} {X : Nat → Prop} {w0 w : Wd} {S : KS} (hK : Kl G X w0 S w) (hn2 : S.ln 0 ≤ S.nn 2) (hp : ∀ i, i < S.ln 0 → 0 ≤ S.fm i 0) {dy : Int32} : Ct G yX5_formatOn kw_X5_formatOn rm_X5_formatOn [.ref (S.ad 0 0), .int dy] w (PV (.ref (fAd S (fOn S dy (S.ln 0)))) w) := by
  have hr3 : 0 < S.nn 3 := by have := hK.u3; omega
  have hln : S.ln 0 ≤ 200 := by have := hK.cl.cp _ hr3; omega
  refine ct_intro RX5 "formatOn" (by decide +kernel) rfl rfl rfl (Nat.le_of_ble_eq_true rfl) [some (.ref (S.ad 0 0)), some (.int dy), none, none, none] rfl (fun C => ?_)
  refine g_aload0 dX5_formatOn_0 ?_
  refine g_getf kc6 dX5_formatOn_1 fl_X5_14 (by decide) hK.g0 rfl ?_
  refine g_astore2 dX5_formatOn_4 ?_
  refine g_iconst (v := 0) dX5_formatOn_5 (by decide) ?_
  refine g_istore3 dX5_formatOn_6 ?_
  exact lp_formatOn hK hr3 hln hn2 hp C (S.ln 0 + 1) 0 none (by omega) (Nat.zero_le _)

