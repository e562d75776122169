/-! found, clear, read. -/
def fnP (S : KS) (r : Nat) (ac ki dy : Int32) (d : Nat) : Bool := seeS S r d && fitB (S.dI d 1) (S.dI d 2) (S.rD (S.dR d)) ac ki dy
def PF (v : Int32) (w : Wd) : RV → Wd → Prop := fun rv w' => w' = w ∧ ((v = -1 ∧ rv = .inr "java/lang/IndexOutOfBoundsException") ∨ (v ≠ -1 ∧ rv = .inl (some (.int v))))

abbrev rm_X5_found : Room := { frames := 7, cells := 10, slots := 60, locals := 104 }

set_option maxRecDepth 100000 in
theorem kt_found_a1 {G : Gx} {X : Nat → Prop} {w0 w : Wd} {S : KS} (hK : Kl G X w0 S w) {x : Int32} {ac ki dy ix : Int32} (h : inb x 0 (nI (S.ln 3) - 1) = false) : Ct G yX5_found kw_X5_found rm_X5_found [.ref (S.ad 0 0), .int x, .int ac, .int ki, .int dy, .int ix] w (PX "java/lang/IllegalArgumentException" w) := by
  refine ct_intro RX5 "found" (by decide +kernel) rfl rfl rfl (Nat.le_of_ble_eq_true rfl) [some (.ref (S.ad 0 0)), some (.int x), some (.int ac), some (.int ki), some (.int dy), some (.int ix), none, none, none, none] rfl (fun C => ?_)
  refine g_aload0 dX5_found_0 ?_
  refine g_iload1 dX5_found_1 ?_
  refine g_callV1 kc6 (ct_rdrAt_no hK h) md_X5_readerAt dX5_found_2 ml_X5_164 im_X5_readerAt se_X5_readerAt hK.g0 (RmOk.of (Nat.le_of_ble_eq_true rfl) (Nat.le_of_ble_eq_true rfl) (Nat.le_of_ble_eq_true rfl) (Nat.le_of_ble_eq_true rfl) (Nat.le_of_ble_eq_true rfl)) kr_X (kx_X ?_)
  refine gx_out (fun _ h => nomatch h) ?_ (Nat.le_of_ble_eq_true rfl) (Nat.le_of_ble_eq_true rfl)
  exact ⟨rfl, rfl⟩

set_option maxRecDepth 100000 in
theorem kt_found_a2 {G : Gx} {X : Nat → Prop} {w0 w : Wd} {S : KS} (hK : Kl G X w0 S w) {r : Nat} (hr : r < S.ln 3) {ac ki dy ix : Int32} (h1 : inb ac (-1) 99 = false) : Ct G yX5_found kw_X5_found rm_X5_found [.ref (S.ad 0 0), .int (nI r), .int ac, .int ki, .int dy, .int ix] w (PX "java/lang/IllegalArgumentException" w) := by
  refine ct_intro RX5 "found" (by decide +kernel) rfl rfl rfl (Nat.le_of_ble_eq_true rfl) [some (.ref (S.ad 0 0)), some (.int (nI r)), some (.int ac), some (.int ki), some (.int dy), some (.int ix), none, none, none, none] rfl (fun C => ?_)
  refine g_aload0 dX5_found_0 ?_
  refine g_iload1 dX5_found_1 ?_
  refine g_callV1 kc6 (ct_rdrAt_ok hK hr) md_X5_readerAt dX5_found_2 ml_X5_164 im_X5_readerAt se_X5_readerAt hK.g0 (RmOk.of (Nat.le_of_ble_eq_true rfl) (Nat.le_of_ble_eq_true rfl) (Nat.le_of_ble_eq_true rfl) (Nat.le_of_ble_eq_true rfl) (Nat.le_of_ble_eq_true rfl)) (kr_V ?_) kx_V
  refine g_astore6 dX5_found_5 ?_
  refine g_iload2 dX5_found_7 ?_
  refine g_iconst (v := (-1)) dX5_found_8 (by decide) ?_
  refine g_bipush (v := 99) dX5_found_9 (by decide) ?_
  refine g_callS3 (ct_dr_no h1) md_X5_demandRange dX5_found_11 ml_X5_71 st_X5_demandRange (RmOk.of (Nat.le_of_ble_eq_true rfl) (Nat.le_of_ble_eq_true rfl) (Nat.le_of_ble_eq_true rfl) (Nat.le_of_ble_eq_true rfl) (Nat.le_of_ble_eq_true rfl)) kr_X (kx_X ?_)
  refine gx_out (fun _ h => nomatch h) ?_ (Nat.le_of_ble_eq_true rfl) (Nat.le_of_ble_eq_true rfl)
  exact ⟨rfl, rfl⟩

set_option maxRecDepth 100000 in
theorem kt_found_a3 {G : Gx} {X : Nat → Prop} {w0 w : Wd} {S : KS} (hK : Kl G X w0 S w) {r : Nat} (hr : r < S.ln 3) {ac ki dy ix : Int32} (h1 : inb ac (-1) 99 = true) (h2 : inb ki (-1) 3 = false) : Ct G yX5_found kw_X5_found rm_X5_found [.ref (S.ad 0 0), .int (nI r), .int ac, .int ki, .int dy, .int ix] w (PX "java/lang/IllegalArgumentException" w) := by
  refine ct_intro RX5 "found" (by decide +kernel) rfl rfl rfl (Nat.le_of_ble_eq_true rfl) [some (.ref (S.ad 0 0)), some (.int (nI r)), some (.int ac), some (.int ki), some (.int dy), some (.int ix), none, none, none, none] rfl (fun C => ?_)
  refine g_aload0 dX5_found_0 ?_
  refine g_iload1 dX5_found_1 ?_
  refine g_callV1 kc6 (ct_rdrAt_ok hK hr) md_X5_readerAt dX5_found_2 ml_X5_164 im_X5_readerAt se_X5_readerAt hK.g0 (RmOk.of (Nat.le_of_ble_eq_true rfl) (Nat.le_of_ble_eq_true rfl) (Nat.le_of_ble_eq_true rfl) (Nat.le_of_ble_eq_true rfl) (Nat.le_of_ble_eq_true rfl)) (kr_V ?_) kx_V
  refine g_astore6 dX5_found_5 ?_
  refine g_iload2 dX5_found_7 ?_
  refine g_iconst (v := (-1)) dX5_found_8 (by decide) ?_
  refine g_bipush (v := 99) dX5_found_9 (by decide) ?_
  refine g_callS3 (ct_dr_ok h1) md_X5_demandRange dX5_found_11 ml_X5_71 st_X5_demandRange (RmOk.of (Nat.le_of_ble_eq_true rfl) (Nat.le_of_ble_eq_true rfl) (Nat.le_of_ble_eq_true rfl) (Nat.le_of_ble_eq_true rfl) (Nat.le_of_ble_eq_true rfl)) (kr_U ?_) kx_U
  refine g_iload3 dX5_found_14 ?_
  refine g_iconst (v := (-1)) dX5_found_15 (by decide) ?_
  refine g_iconst (v := 3) dX5_found_16 (by decide) ?_
  refine g_callS3 (ct_dr_no h2) md_X5_demandRange dX5_found_17 ml_X5_71 st_X5_demandRange (RmOk.of (Nat.le_of_ble_eq_true rfl) (Nat.le_of_ble_eq_true rfl) (Nat.le_of_ble_eq_true rfl) (Nat.le_of_ble_eq_true rfl) (Nat.le_of_ble_eq_true rfl)) kr_X (kx_X ?_)
  refine gx_out (fun _ h => nomatch h) ?_ (Nat.le_of_ble_eq_true rfl) (Nat.le_of_ble_eq_true rfl)
  exact ⟨rfl, rfl⟩

set_option maxRecDepth 100000 in
theorem kt_found_a4 {G : Gx} {X : Nat → Prop} {w0 w : Wd} {S : KS} (hK : Kl G X w0 S w) {r : Nat} (hr : r < S.ln 3) {ac ki dy ix : Int32} (h1 : inb ac (-1) 99 = true) (h2 : inb ki (-1) 3 = true) (h3 : inb dy 0 9999 = false) : Ct G yX5_found kw_X5_found rm_X5_found [.ref (S.ad 0 0), .int (nI r), .int ac, .int ki, .int dy, .int ix] w (PX "java/lang/IllegalArgumentException" w) := by
  refine ct_intro RX5 "found" (by decide +kernel) rfl rfl rfl (Nat.le_of_ble_eq_true rfl) [some (.ref (S.ad 0 0)), some (.int (nI r)), some (.int ac), some (.int ki), some (.int dy), some (.int ix), none, none, none, none] rfl (fun C => ?_)
  refine g_aload0 dX5_found_0 ?_
  refine g_iload1 dX5_found_1 ?_
  refine g_callV1 kc6 (ct_rdrAt_ok hK hr) md_X5_readerAt dX5_found_2 ml_X5_164 im_X5_readerAt se_X5_readerAt hK.g0 (RmOk.of (Nat.le_of_ble_eq_true rfl) (Nat.le_of_ble_eq_true rfl) (Nat.le_of_ble_eq_true rfl) (Nat.le_of_ble_eq_true rfl) (Nat.le_of_ble_eq_true rfl)) (kr_V ?_) kx_V
  refine g_astore6 dX5_found_5 ?_
  refine g_iload2 dX5_found_7 ?_
  refine g_iconst (v := (-1)) dX5_found_8 (by decide) ?_
  refine g_bipush (v := 99) dX5_found_9 (by decide) ?_
  refine g_callS3 (ct_dr_ok h1) md_X5_demandRange dX5_found_11 ml_X5_71 st_X5_demandRange (RmOk.of (Nat.le_of_ble_eq_true rfl) (Nat.le_of_ble_eq_true rfl) (Nat.le_of_ble_eq_true rfl) (Nat.le_of_ble_eq_true rfl) (Nat.le_of_ble_eq_true rfl)) (kr_U ?_) kx_U
  refine g_iload3 dX5_found_14 ?_
  refine g_iconst (v := (-1)) dX5_found_15 (by decide) ?_
  refine g_iconst (v := 3) dX5_found_16 (by decide) ?_
  refine g_callS3 (ct_dr_ok h2) md_X5_demandRange dX5_found_17 ml_X5_71 st_X5_demandRange (RmOk.of (Nat.le_of_ble_eq_true rfl) (Nat.le_of_ble_eq_true rfl) (Nat.le_of_ble_eq_true rfl) (Nat.le_of_ble_eq_true rfl) (Nat.le_of_ble_eq_true rfl)) (kr_U ?_) kx_U
  refine g_iload4 dX5_found_20 ?_
  refine g_iconst (v := 0) dX5_found_22 (by decide) ?_
  refine g_sipush (v := 9999) dX5_found_23 (by decide) ?_
  refine g_callS3 (ct_dr_no h3) md_X5_demandRange dX5_found_26 ml_X5_71 st_X5_demandRange (RmOk.of (Nat.le_of_ble_eq_true rfl) (Nat.le_of_ble_eq_true rfl) (Nat.le_of_ble_eq_true rfl) (Nat.le_of_ble_eq_true rfl) (Nat.le_of_ble_eq_true rfl)) kr_X (kx_X ?_)
  refine gx_out (fun _ h => nomatch h) ?_ (Nat.le_of_ble_eq_true rfl) (Nat.le_of_ble_eq_true rfl)
  exact ⟨rfl, rfl⟩

set_option maxRecDepth 100000 in
theorem lp_found2 {G : Gx} {X : Nat → Prop} {w0 w : Wd} {S : KS} (hK : Kl G X w0 S w) {r : Nat} (hr : r < S.ln 3) (hlk : S.rd r 0 = bI (decide (r = 0))) {ac ki dy ix : Int32} {c k : Nat} (hc : c ≤ 8) (hk : k ≤ 50) (C : Cx) : ∀ (M : Nat) (i : Nat) (b : Nat) (x9 : Option Value), S.ln 2 - i < M → i ≤ S.ln 2 →
    Go G rm_X5_found cX5_found RX5 ((some .int), "found", []) C (QP G rm_X5_found (PF (fC (fnP S r ac ki dy) ix (S.ln 2) (S.ln 2 - i) b) w) C) 35 [some (.ref (S.ad 0 0)), some (.int (nI r)), some (.int ac), some (.int ki), some (.int dy), some (.int ix), some (.ref (S.ad 9 r)), some (.int (nI b)), some (.int (nI i)), x9] [] w c k := by
  intro M
  induction M with
  | zero => intro i b x9 hM9; exact absurd hM9 (Nat.not_lt_zero _)
  | succ M ih =>
    intro i b x9 hM9 hi
    have hr3 : 3 < S.nn 3 := by have := hK.u3; omega
    have hr9 : r < S.nn 9 := hK.cl.el 3 r hr3 hr
    have hr2 : 2 < S.nn 3 := by have := hK.u3; omega
    have hln : S.ln 2 ≤ 200 := by have := hK.cl.cp _ hr2; omega
    have hgq := hK.g9 hr9
    rw [hlk] at hgq
    refine g_iload8 dX5_found_35 ?_
    refine g_aload0 dX5_found_37 ?_
    refine g_getf kc6 dX5_found_38 fl_X5_42 (by decide) hK.g0 rfl ?_
    refine g_callV0 kc0 (hK.ctSize hr2) md_Jx4a65c_size_8abf5 dX5_found_41 ml_X5_85 im_Jx4a65c_size_8abf5 se_Jx4a65c_size_8abf5 (hK.g3 hr2) (RmOk.of (Nat.le_of_ble_eq_true rfl) (Nat.le_of_ble_eq_true rfl) (Nat.le_of_ble_eq_true rfl) (by (try dsimp only [rm_X5_found, rm_Jx4a65c_size_8abf5]); omega) (by (try dsimp only [rm_X5_found, rm_Jx4a65c_size_8abf5]); omega)) (kr_V ?_) kx_V
    refine g_icmp_ge (tgt := 102) dX5_found_44 (by decide) (fun h44 => ?_) (fun h44 => ?_)
    · skip
      refine g_throwS tw_X5_176_178_180 dX5_found_102 dX5_found_105 dX5_found_106 dX5_found_108 dX5_found_111 (fun _ h => nomatch h) (Nat.le_of_ble_eq_true rfl) (Nat.le_of_ble_eq_true rfl) ?_ (by (try dsimp only [rm_X5_found, rm_Jx4a65c_size_8abf5]); omega) (by (try dsimp only [rm_X5_found, rm_Jx4a65c_size_8abf5]); omega)
      rw [show S.ln 2 - i = 0 by have := idx_ge (i := i) (n := S.ln 2) (by omega) (by omega) h44; omega]
      exact ⟨rfl, Or.inl ⟨rfl, rfl⟩⟩
    · skip
      have hlt : i < S.ln 2 := idx_lt (by omega) (by omega) h44
      have hd8 : i < S.nn 8 := hK.cl.el 2 i hr2 hlt
      have hst : fC (fnP S r ac ki dy) ix (S.ln 2) (S.ln 2 - i) b = if fnP S r ac ki dy i = true then (if nI b = ix then nI i else fC (fnP S r ac ki dy) ix (S.ln 2) (S.ln 2 - (i + 1)) (b + 1)) else fC (fnP S r ac ki dy) ix (S.ln 2) (S.ln 2 - (i + 1)) b := by
        rw [show S.ln 2 - i = (S.ln 2 - (i + 1)) + 1 by omega]
        show (if fnP S r ac ki dy (S.ln 2 - (S.ln 2 - (i + 1) + 1)) = true then (if nI b = ix then nI (S.ln 2 - (S.ln 2 - (i + 1) + 1)) else _) else _) = _
        rw [show S.ln 2 - (S.ln 2 - (i + 1) + 1) = i by omega]
      refine g_aload0 dX5_found_47 ?_
      refine g_getf kc6 dX5_found_48 fl_X5_42 (by decide) hK.g0 rfl ?_
      refine g_iload8 dX5_found_51 ?_
      refine g_callV1 kc0 (hK.ctGetD hr2 hlt) md_Jx4a65c_get_915e3 dX5_found_53 ml_X5_126 im_Jx4a65c_get_915e3 se_Jx4a65c_get_915e3 (hK.g3 hr2) (RmOk.of (Nat.le_of_ble_eq_true rfl) (Nat.le_of_ble_eq_true rfl) (Nat.le_of_ble_eq_true rfl) (by (try dsimp only [rm_X5_found, rm_Jx4a65c_size_8abf5, rm_Jx4a65c_get_915e3]); omega) (by (try dsimp only [rm_X5_found, rm_Jx4a65c_size_8abf5, rm_Jx4a65c_get_915e3]); omega)) (kr_V ?_) kx_V
      refine g_cast kc1 dX5_found_56 cl_X5_150 (hK.g8 hd8) ?_
      refine g_astore9 dX5_found_59 ?_
      refine g_aload6 dX5_found_61 ?_
      refine g_aload9 dX5_found_63 ?_
      refine g_callVN1 kc4 (ct_csees hgq (hK.g8 hd8)) md_X3_sees dX5_found_65 ml_X5_168 im_X3_sees se_X3_sees hgq (RmOk.of (Nat.le_of_ble_eq_true rfl) (Nat.le_of_ble_eq_true rfl) (Nat.le_of_ble_eq_true rfl) (by (try dsimp only [rm_X5_found, rm_Jx4a65c_size_8abf5, rm_Jx4a65c_get_915e3, rm_X3_sees]); omega) (by (try dsimp only [rm_X5_found, rm_Jx4a65c_size_8abf5, rm_Jx4a65c_get_915e3, rm_X3_sees]); omega)) (kr_V ?_) kn_V
      refine g_if_eq (tgt := 96) dX5_found_68 (by decide) (fun h68 => ?_) (fun h68 => ?_)
      · skip
        refine g_iinc8 (v' := (nI (i + 1))) dX5_found_96 (nI_1 i) ?_
        refine g_goto (tgt := 35) dX5_found_99 (by decide) ?_
        first
          | (rw [hst, if_pos (show fnP S r ac ki dy i = true by unfold fnP seeS; rw [bI_n.mp h68, bI_n.mp h80]; rfl), if_neg h87]
             exact ih (i + 1) (b + 1) _ (by omega) (by omega))
          | (rw [hst, if_neg (show ¬ fnP S r ac ki dy i = true by unfold fnP seeS; rw [bI_n.mp h68, bI_0.mp h80]; decide)]
             exact ih (i + 1) b _ (by omega) (by omega))
          | (rw [hst, if_neg (show ¬ fnP S r ac ki dy i = true by unfold fnP seeS; rw [bI_0.mp h68, Bool.false_and]; decide)]
             exact ih (i + 1) b _ (by omega) (by omega))
      · skip
        refine g_aload9 dX5_found_71 ?_
        refine g_iload2 dX5_found_73 ?_
        refine g_iload3 dX5_found_74 ?_
        refine g_iload4 dX5_found_75 ?_
        refine g_callVN3 kc1 (ct_fits (hK.g8 hd8) (hK.g5 (hK.cl.dR i hd8))) md_X0_fits dX5_found_77 ml_X5_172 im_X0_fits se_X0_fits (hK.g8 hd8) (RmOk.of (Nat.le_of_ble_eq_true rfl) (Nat.le_of_ble_eq_true rfl) (Nat.le_of_ble_eq_true rfl) (by (try dsimp only [rm_X5_found, rm_Jx4a65c_size_8abf5, rm_Jx4a65c_get_915e3, rm_X3_sees, rm_X0_fits]); omega) (by (try dsimp only [rm_X5_found, rm_Jx4a65c_size_8abf5, rm_Jx4a65c_get_915e3, rm_X3_sees, rm_X0_fits]); omega)) (kr_V ?_) kn_V
        refine g_if_eq (tgt := 96) dX5_found_80 (by decide) (fun h80 => ?_) (fun h80 => ?_)
        · skip
          refine g_iinc8 (v' := (nI (i + 1))) dX5_found_96 (nI_1 i) ?_
          refine g_goto (tgt := 35) dX5_found_99 (by decide) ?_
          first
            | (rw [hst, if_pos (show fnP S r ac ki dy i = true by unfold fnP seeS; rw [bI_n.mp h68, bI_n.mp h80]; rfl), if_neg h87]
               exact ih (i + 1) (b + 1) _ (by omega) (by omega))
            | (rw [hst, if_neg (show ¬ fnP S r ac ki dy i = true by unfold fnP seeS; rw [bI_n.mp h68, bI_0.mp h80]; decide)]
               exact ih (i + 1) b _ (by omega) (by omega))
            | (rw [hst, if_neg (show ¬ fnP S r ac ki dy i = true by unfold fnP seeS; rw [bI_0.mp h68, Bool.false_and]; decide)]
               exact ih (i + 1) b _ (by omega) (by omega))
        · skip
          refine g_iload7 dX5_found_83 ?_
          refine g_iload5 dX5_found_85 ?_
          refine g_icmp_ne (tgt := 93) dX5_found_87 (by decide) (fun h87 => ?_) (fun h87 => ?_)
          · skip
            refine g_iinc7 (v' := (nI (b + 1))) dX5_found_93 (nI_1 b) ?_
            refine g_iinc8 (v' := (nI (i + 1))) dX5_found_96 (nI_1 i) ?_
            refine g_goto (tgt := 35) dX5_found_99 (by decide) ?_
            first
              | (rw [hst, if_pos (show fnP S r ac ki dy i = true by unfold fnP seeS; rw [bI_n.mp h68, bI_n.mp h80]; rfl), if_neg h87]
                 exact ih (i + 1) (b + 1) _ (by omega) (by omega))
              | (rw [hst, if_neg (show ¬ fnP S r ac ki dy i = true by unfold fnP seeS; rw [bI_n.mp h68, bI_0.mp h80]; decide)]
                 exact ih (i + 1) b _ (by omega) (by omega))
              | (rw [hst, if_neg (show ¬ fnP S r ac ki dy i = true by unfold fnP seeS; rw [bI_0.mp h68, Bool.false_and]; decide)]
                 exact ih (i + 1) b _ (by omega) (by omega))
          · skip
            refine g_iload8 dX5_found_90 ?_
            refine g_iret dX5_found_92 ?_ (by (try dsimp only [rm_X5_found, rm_Jx4a65c_size_8abf5, rm_Jx4a65c_get_915e3, rm_X3_sees, rm_X0_fits]); omega) (by (try dsimp only [rm_X5_found, rm_Jx4a65c_size_8abf5, rm_Jx4a65c_get_915e3, rm_X3_sees, rm_X0_fits]); omega)
            have hP : fnP S r ac ki dy i = true := by unfold fnP seeS; rw [bI_n.mp h68, bI_n.mp h80]; rfl
            rw [hst, if_pos hP, if_pos h87]
            exact ⟨rfl, Or.inr ⟨ne_m1 (by omega), rfl⟩⟩

set_option maxRecDepth 100000 in
theorem kt_found_b {G : Gx} {X : Nat → Prop} {w0 w : Wd} {S : KS} (hK : Kl G X w0 S w) {r : Nat} (hr : r < S.ln 3) (hlk : S.rd r 0 = bI (decide (r = 0))) {ac ki dy ix : Int32} (h1 : inb ac (-1) 99 = true) (h2 : inb ki (-1) 3 = true) (h3 : inb dy 0 9999 = true) : Ct G yX5_found kw_X5_found rm_X5_found [.ref (S.ad 0 0), .int (nI r), .int ac, .int ki, .int dy, .int ix] w (PF (fC (fnP S r ac ki dy) ix (S.ln 2) (S.ln 2) 0) w) := by
  refine ct_intro RX5 "found" (by decide +kernel) rfl rfl rfl (Nat.le_of_ble_eq_true rfl) [some (.ref (S.ad 0 0)), some (.int (nI r)), some (.int ac), some (.int ki), some (.int dy), some (.int ix), none, none, none, none] rfl (fun C => ?_)
  refine g_aload0 dX5_found_0 ?_
  refine g_iload1 dX5_found_1 ?_
  refine g_callV1 kc6 (ct_rdrAt_ok hK hr) md_X5_readerAt dX5_found_2 ml_X5_164 im_X5_readerAt se_X5_readerAt hK.g0 (RmOk.of (Nat.le_of_ble_eq_true rfl) (Nat.le_of_ble_eq_true rfl) (Nat.le_of_ble_eq_true rfl) (Nat.le_of_ble_eq_true rfl) (Nat.le_of_ble_eq_true rfl)) (kr_V ?_) kx_V
  refine g_astore6 dX5_found_5 ?_
  refine g_iload2 dX5_found_7 ?_
  refine g_iconst (v := (-1)) dX5_found_8 (by decide) ?_
  refine g_bipush (v := 99) dX5_found_9 (by decide) ?_
  refine g_callS3 (ct_dr_ok h1) md_X5_demandRange dX5_found_11 ml_X5_71 st_X5_demandRange (RmOk.of (Nat.le_of_ble_eq_true rfl) (Nat.le_of_ble_eq_true rfl) (Nat.le_of_ble_eq_true rfl) (Nat.le_of_ble_eq_true rfl) (Nat.le_of_ble_eq_true rfl)) (kr_U ?_) kx_U
  refine g_iload3 dX5_found_14 ?_
  refine g_iconst (v := (-1)) dX5_found_15 (by decide) ?_
  refine g_iconst (v := 3) dX5_found_16 (by decide) ?_
  refine g_callS3 (ct_dr_ok h2) md_X5_demandRange dX5_found_17 ml_X5_71 st_X5_demandRange (RmOk.of (Nat.le_of_ble_eq_true rfl) (Nat.le_of_ble_eq_true rfl) (Nat.le_of_ble_eq_true rfl) (Nat.le_of_ble_eq_true rfl) (Nat.le_of_ble_eq_true rfl)) (kr_U ?_) kx_U
  refine g_iload4 dX5_found_20 ?_
  refine g_iconst (v := 0) dX5_found_22 (by decide) ?_
  refine g_sipush (v := 9999) dX5_found_23 (by decide) ?_
  refine g_callS3 (ct_dr_ok h3) md_X5_demandRange dX5_found_26 ml_X5_71 st_X5_demandRange (RmOk.of (Nat.le_of_ble_eq_true rfl) (Nat.le_of_ble_eq_true rfl) (Nat.le_of_ble_eq_true rfl) (Nat.le_of_ble_eq_true rfl) (Nat.le_of_ble_eq_true rfl)) (kr_U ?_) kx_U
  refine g_iconst (v := 0) dX5_found_29 (by decide) ?_
  refine g_istore7 dX5_found_30 ?_
  refine g_iconst (v := 0) dX5_found_32 (by decide) ?_
  refine g_istore8 dX5_found_33 ?_
  exact lp_found2 hK hr hlk (by decide) (by decide) C (S.ln 2 + 1) 0 0 none (by omega) (Nat.zero_le _)

abbrev rm_X5_clear : Room := { frames := 3, cells := 0, slots := 0, locals := 64 }

def clP (S : KS) (q : Nat) : Bool := decide (S.dI q 4 = 0) && (ovC S q && !hdC S q)
def clC (S : KS) (i : Nat) : Nat → Nat → Int32 := fun q => if q < i ∧ clP S q = true then upd (S.dI q) 4 1 else S.dI q
theorem clC_at {S : KS} {i : Nat} : clC S i i = S.dI i := if_neg (fun z => Nat.lt_irrefl _ z.1)
theorem clC_0 {S : KS} : clC S 0 = S.dI := by funext q; exact if_neg (fun z => absurd z.1 (Nat.not_lt_zero _))
theorem clC_ov {S : KS} {i : Nat} : ovC (S.sdI (clC S i)) i = ovC S i := by
  show (isK 4 (clC S i i 2) && !decide (S.day ≤ S.rD (S.dR i) + S.sp (clC S i i 2).toNatClampNeg)) = _
  rw [clC_at]; rfl
theorem clC_hd {S : KS} {i : Nat} : hdC (S.sdI (clC S i)) i = hdC S i := by
  show (isK 100 (clC S i i 1) && !decide (S.he (clC S i i 1).toNatClampNeg = 0)) = _
  rw [clC_at]; rfl
theorem clC_y {S : KS} {i : Nat} (h : clP S i = true) : upd2 (clC S i) i 4 1 = clC S (i + 1) := by
  funext q
  by_cases e : q = i
  · rw [e, upd2_s, clC_at]
    exact (if_pos ⟨Nat.lt_succ_self _, h⟩).symm
  · rw [upd2_n e]
    unfold clC
    by_cases z : q < i ∧ clP S q = true
    · rw [if_pos z, if_pos ⟨by omega, z.2⟩]
    · rw [if_neg z, if_neg (fun y => z ⟨by omega, y.2⟩)]
theorem clC_n {S : KS} {i : Nat} (h : clP S i = false) : clC S i = clC S (i + 1) := by
  funext q
  unfold clC
  by_cases z : q < i ∧ clP S q = true
  · rw [if_pos z, if_pos ⟨by omega, z.2⟩]
  · rw [if_neg z, if_neg (fun y => z ⟨by
      by_cases e : q = i
      · rw [e, h] at y; cases y.2
      · omega, y.2⟩)]

set_option maxRecDepth 100000 in
theorem lp_clear2 {G : Gx} {X : Nat → Prop} {w0 w : Wd} {S : KS} (hK : Kl G X w0 S w) (C : Cx) : ∀ (M : Nat) (i : Nat) (w1 : Wd) (x3 : Option Value), S.ln 2 - i < M → i ≤ S.ln 2 → Kl G X w0 (S.sdI (clC S i)) w1 →
    Go G rm_X5_clear cX5_clear RX5 ((some .int), "clear", []) C (QP G rm_X5_clear (PB (.int (nI (cnB (clP S) (S.ln 2)))) (fun w' => Kl G X w0 (S.sdI (clC S (S.ln 2))) w')) C) 4 [some (.ref (S.ad 0 0)), some (.int (nI (cnB (clP S) i))), some (.int (nI i)), x3] [] w1 0 0 := by
  intro M
  induction M with
  | zero => intro i w1 x3 hM9; exact absurd hM9 (Nat.not_lt_zero _)
  | succ M ih =>
    intro i w1 x3 hM9 hi hK1
    have hr2 : 2 < S.nn 3 := by have := hK.u3; omega
    have hln : S.ln 2 ≤ 200 := by have := hK.cl.cp _ hr2; omega
    refine g_iload2 dX5_clear_4 ?_
    refine g_aload0 dX5_clear_5 ?_
    refine g_getf kc6 dX5_clear_6 fl_X5_42 (by decide) hK1.g0 rfl ?_
    refine g_callV0 kc0 (hK1.ctSize (l := 2) hr2) md_Jx4a65c_size_8abf5 dX5_clear_9 ml_X5_85 im_Jx4a65c_size_8abf5 se_Jx4a65c_size_8abf5 (hK1.g3 (i := 2) hr2) (RmOk.of (Nat.le_of_ble_eq_true rfl) (Nat.le_of_ble_eq_true rfl) (Nat.le_of_ble_eq_true rfl) (Nat.le_of_ble_eq_true rfl) (Nat.le_of_ble_eq_true rfl)) (kr_V ?_) kx_V
    refine g_icmp_ge (tgt := 64) dX5_clear_12 (by decide) (fun h12 => ?_) (fun h12 => ?_)
    · skip
      refine g_iload1 dX5_clear_64 ?_
      refine g_iret dX5_clear_65 ?_ (Nat.le_of_ble_eq_true rfl) (Nat.le_of_ble_eq_true rfl)
      have hge := idx_ge (i := i) (n := S.ln 2) (by omega) (by omega) h12
      obtain rfl : i = S.ln 2 := by omega
      exact ⟨rfl, hK1⟩
    · skip
      have h12 : ¬ nI (S.ln 2) ≤ nI i := h12
      have hlt : i < S.ln 2 := idx_lt (by omega) (by omega) h12
      have hd8 : i < S.nn 8 := hK.cl.el 2 i hr2 hlt
      have hg8 := hK1.g8 (i := i) hd8
      have ho := ct_isOver hK1 (d := i) hd8
      rw [clC_ov] at ho
      have hh := ct_isHeld hK1 (d := i) hd8
      rw [clC_hd] at hh
      rw [show (S.sdI (clC S i)).dI i = S.dI i from clC_at] at hg8
      refine g_aload0 dX5_clear_15 ?_
      refine g_getf kc6 dX5_clear_16 fl_X5_42 (by decide) hK1.g0 rfl ?_
      refine g_iload2 dX5_clear_19 ?_
      refine g_callV1 kc0 (hK1.ctGetD (j := i) hr2 hlt) md_Jx4a65c_get_915e3 dX5_clear_20 ml_X5_126 im_Jx4a65c_get_915e3 se_Jx4a65c_get_915e3 (hK1.g3 (i := 2) hr2) (RmOk.of (Nat.le_of_ble_eq_true rfl) (Nat.le_of_ble_eq_true rfl) (Nat.le_of_ble_eq_true rfl) (Nat.le_of_ble_eq_true rfl) (Nat.le_of_ble_eq_true rfl)) (kr_V ?_) kx_V
      refine g_cast kc1 dX5_clear_23 cl_X5_150 hg8 ?_
      refine g_astore3 dX5_clear_26 ?_
      refine g_aload3 dX5_clear_27 ?_
      refine g_getf kc1 dX5_clear_28 fl_X5_149 (by decide) hg8 rfl ?_
      refine g_if_ne (tgt := 58) dX5_clear_31 (by decide) (fun h31 => ?_) (fun h31 => ?_)
      · skip
        refine g_iinc2 (v' := (nI (i + 1))) dX5_clear_58 (nI_1 i) ?_
        refine g_goto (tgt := 4) dX5_clear_61 (by decide) ?_
        first
          | (have hP : clP S i = true := by unfold clP; rw [decide_eq_true h31, bI_n.mp h39, bI_0.mp h47]; rfl
             have hput := hK1.pGone (i := i) hd8 1
             rw [show upd2 (S.sdI (clC S i)).dI i 4 1 = clC S (i + 1) from clC_y hP, show (S.sdI (clC S i)).dI i = S.dI i from clC_at] at hput
             have h9 := ih (i + 1) _ (some (.ref (S.ad 8 i))) (by omega) (by omega) hput
             rw [show cnB (clP S) (i + 1) = cnB (clP S) i + 1 by show cnB (clP S) i + (if clP S i = true then 1 else 0) = _; rw [if_pos hP]] at h9
             exact h9)
          | (have hP : clP S i = false := by unfold clP; rw [decide_eq_true h31, bI_n.mp h39, bI_n.mp h47]; rfl
             have e9 := clC_n hP
             have h9 := ih (i + 1) w1 (some (.ref (S.ad 8 i))) (by omega) (by omega) (e9 ▸ hK1)
             rw [show cnB (clP S) (i + 1) = cnB (clP S) i by show cnB (clP S) i + (if clP S i = true then 1 else 0) = _; rw [hP]; rfl] at h9
             exact h9)
          | (have hP : clP S i = false := by unfold clP; rw [decide_eq_true h31, bI_0.mp h39]; rfl
             have e9 := clC_n hP
             have h9 := ih (i + 1) w1 (some (.ref (S.ad 8 i))) (by omega) (by omega) (e9 ▸ hK1)
             rw [show cnB (clP S) (i + 1) = cnB (clP S) i by show cnB (clP S) i + (if clP S i = true then 1 else 0) = _; rw [hP]; rfl] at h9
             exact h9)
          | (have hP : clP S i = false := by unfold clP; rw [decide_eq_false h31]; rfl
             have e9 := clC_n hP
             have h9 := ih (i + 1) w1 (some (.ref (S.ad 8 i))) (by omega) (by omega) (e9 ▸ hK1)
             rw [show cnB (clP S) (i + 1) = cnB (clP S) i by show cnB (clP S) i + (if clP S i = true then 1 else 0) = _; rw [hP]; rfl] at h9
             exact h9)
      · skip
        refine g_aload0 dX5_clear_34 ?_
        refine g_aload3 dX5_clear_35 ?_
        refine g_callV1 kc6 ho md_X5_isOver dX5_clear_36 ml_X5_221 im_X5_isOver se_X5_isOver hK1.g0 (RmOk.of (Nat.le_of_ble_eq_true rfl) (Nat.le_of_ble_eq_true rfl) (Nat.le_of_ble_eq_true rfl) (Nat.le_of_ble_eq_true rfl) (Nat.le_of_ble_eq_true rfl)) (kr_V ?_) kx_V
        refine g_if_eq (tgt := 58) dX5_clear_39 (by decide) (fun h39 => ?_) (fun h39 => ?_)
        · skip
          refine g_iinc2 (v' := (nI (i + 1))) dX5_clear_58 (nI_1 i) ?_
          refine g_goto (tgt := 4) dX5_clear_61 (by decide) ?_
          first
            | (have hP : clP S i = true := by unfold clP; rw [decide_eq_true h31, bI_n.mp h39, bI_0.mp h47]; rfl
               have hput := hK1.pGone (i := i) hd8 1
               rw [show upd2 (S.sdI (clC S i)).dI i 4 1 = clC S (i + 1) from clC_y hP, show (S.sdI (clC S i)).dI i = S.dI i from clC_at] at hput
               have h9 := ih (i + 1) _ (some (.ref (S.ad 8 i))) (by omega) (by omega) hput
               rw [show cnB (clP S) (i + 1) = cnB (clP S) i + 1 by show cnB (clP S) i + (if clP S i = true then 1 else 0) = _; rw [if_pos hP]] at h9
               exact h9)
            | (have hP : clP S i = false := by unfold clP; rw [decide_eq_true h31, bI_n.mp h39, bI_n.mp h47]; rfl
               have e9 := clC_n hP
               have h9 := ih (i + 1) w1 (some (.ref (S.ad 8 i))) (by omega) (by omega) (e9 ▸ hK1)
               rw [show cnB (clP S) (i + 1) = cnB (clP S) i by show cnB (clP S) i + (if clP S i = true then 1 else 0) = _; rw [hP]; rfl] at h9
               exact h9)
            | (have hP : clP S i = false := by unfold clP; rw [decide_eq_true h31, bI_0.mp h39]; rfl
               have e9 := clC_n hP
               have h9 := ih (i + 1) w1 (some (.ref (S.ad 8 i))) (by omega) (by omega) (e9 ▸ hK1)
               rw [show cnB (clP S) (i + 1) = cnB (clP S) i by show cnB (clP S) i + (if clP S i = true then 1 else 0) = _; rw [hP]; rfl] at h9
               exact h9)
            | (have hP : clP S i = false := by unfold clP; rw [decide_eq_false h31]; rfl
               have e9 := clC_n hP
               have h9 := ih (i + 1) w1 (some (.ref (S.ad 8 i))) (by omega) (by omega) (e9 ▸ hK1)
               rw [show cnB (clP S) (i + 1) = cnB (clP S) i by show cnB (clP S) i + (if clP S i = true then 1 else 0) = _; rw [hP]; rfl] at h9
               exact h9)
        · skip
          refine g_aload0 dX5_clear_42 ?_
          refine g_aload3 dX5_clear_43 ?_
          refine g_callV1 kc6 hh md_X5_isHeld dX5_clear_44 ml_X5_224 im_X5_isHeld se_X5_isHeld hK1.g0 (RmOk.of (Nat.le_of_ble_eq_true rfl) (Nat.le_of_ble_eq_true rfl) (Nat.le_of_ble_eq_true rfl) (Nat.le_of_ble_eq_true rfl) (Nat.le_of_ble_eq_true rfl)) (kr_V ?_) kx_V
          refine g_if_ne (tgt := 58) dX5_clear_47 (by decide) (fun h47 => ?_) (fun h47 => ?_)
          · skip
            refine g_iinc2 (v' := (nI (i + 1))) dX5_clear_58 (nI_1 i) ?_
            refine g_goto (tgt := 4) dX5_clear_61 (by decide) ?_
            first
              | (have hP : clP S i = true := by unfold clP; rw [decide_eq_true h31, bI_n.mp h39, bI_0.mp h47]; rfl
                 have hput := hK1.pGone (i := i) hd8 1
                 rw [show upd2 (S.sdI (clC S i)).dI i 4 1 = clC S (i + 1) from clC_y hP, show (S.sdI (clC S i)).dI i = S.dI i from clC_at] at hput
                 have h9 := ih (i + 1) _ (some (.ref (S.ad 8 i))) (by omega) (by omega) hput
                 rw [show cnB (clP S) (i + 1) = cnB (clP S) i + 1 by show cnB (clP S) i + (if clP S i = true then 1 else 0) = _; rw [if_pos hP]] at h9
                 exact h9)
              | (have hP : clP S i = false := by unfold clP; rw [decide_eq_true h31, bI_n.mp h39, bI_n.mp h47]; rfl
                 have e9 := clC_n hP
                 have h9 := ih (i + 1) w1 (some (.ref (S.ad 8 i))) (by omega) (by omega) (e9 ▸ hK1)
                 rw [show cnB (clP S) (i + 1) = cnB (clP S) i by show cnB (clP S) i + (if clP S i = true then 1 else 0) = _; rw [hP]; rfl] at h9
                 exact h9)
              | (have hP : clP S i = false := by unfold clP; rw [decide_eq_true h31, bI_0.mp h39]; rfl
                 have e9 := clC_n hP
                 have h9 := ih (i + 1) w1 (some (.ref (S.ad 8 i))) (by omega) (by omega) (e9 ▸ hK1)
                 rw [show cnB (clP S) (i + 1) = cnB (clP S) i by show cnB (clP S) i + (if clP S i = true then 1 else 0) = _; rw [hP]; rfl] at h9
                 exact h9)
              | (have hP : clP S i = false := by unfold clP; rw [decide_eq_false h31]; rfl
                 have e9 := clC_n hP
                 have h9 := ih (i + 1) w1 (some (.ref (S.ad 8 i))) (by omega) (by omega) (e9 ▸ hK1)
                 rw [show cnB (clP S) (i + 1) = cnB (clP S) i by show cnB (clP S) i + (if clP S i = true then 1 else 0) = _; rw [hP]; rfl] at h9
                 exact h9)
          · skip
            refine g_aload3 dX5_clear_50 ?_
            refine g_iconst (v := 1) dX5_clear_51 (by decide) ?_
            refine g_putf (fs' := [.ref (S.ad 5 (S.dR i)), .int (S.dI i 0), .int (S.dI i 1), .int (S.dI i 2), .int (S.dI i 3), .int 1]) kc1 dX5_clear_52 fl_X5_149 (by decide) rfl hg8 (hK1.b8 (i := i) hd8) rfl rfl (Nat.le_of_ble_eq_true rfl) rfl ?_
            refine g_iinc1 (v' := (nI (cnB (clP S) i + 1))) dX5_clear_55 (nI_1 _) ?_
            refine g_iinc2 (v' := (nI (i + 1))) dX5_clear_58 (nI_1 i) ?_
            refine g_goto (tgt := 4) dX5_clear_61 (by decide) ?_
            first
              | (have hP : clP S i = true := by unfold clP; rw [decide_eq_true h31, bI_n.mp h39, bI_0.mp h47]; rfl
                 have hput := hK1.pGone (i := i) hd8 1
                 rw [show upd2 (S.sdI (clC S i)).dI i 4 1 = clC S (i + 1) from clC_y hP, show (S.sdI (clC S i)).dI i = S.dI i from clC_at] at hput
                 have h9 := ih (i + 1) _ (some (.ref (S.ad 8 i))) (by omega) (by omega) hput
                 rw [show cnB (clP S) (i + 1) = cnB (clP S) i + 1 by show cnB (clP S) i + (if clP S i = true then 1 else 0) = _; rw [if_pos hP]] at h9
                 exact h9)
              | (have hP : clP S i = false := by unfold clP; rw [decide_eq_true h31, bI_n.mp h39, bI_n.mp h47]; rfl
                 have e9 := clC_n hP
                 have h9 := ih (i + 1) w1 (some (.ref (S.ad 8 i))) (by omega) (by omega) (e9 ▸ hK1)
                 rw [show cnB (clP S) (i + 1) = cnB (clP S) i by show cnB (clP S) i + (if clP S i = true then 1 else 0) = _; rw [hP]; rfl] at h9
                 exact h9)
              | (have hP : clP S i = false := by unfold clP; rw [decide_eq_true h31, bI_0.mp h39]; rfl
                 have e9 := clC_n hP
                 have h9 := ih (i + 1) w1 (some (.ref (S.ad 8 i))) (by omega) (by omega) (e9 ▸ hK1)
                 rw [show cnB (clP S) (i + 1) = cnB (clP S) i by show cnB (clP S) i + (if clP S i = true then 1 else 0) = _; rw [hP]; rfl] at h9
                 exact h9)
              | (have hP : clP S i = false := by unfold clP; rw [decide_eq_false h31]; rfl
                 have e9 := clC_n hP
                 have h9 := ih (i + 1) w1 (some (.ref (S.ad 8 i))) (by omega) (by omega) (e9 ▸ hK1)
                 rw [show cnB (clP S) (i + 1) = cnB (clP S) i by show cnB (clP S) i + (if clP S i = true then 1 else 0) = _; rw [hP]; rfl] at h9
                 exact h9)

set_option maxRecDepth 100000 in
theorem kt_clear {G : Gx} {X : Nat → Prop} {w0 w : Wd} {S : KS} (hK : Kl G X w0 S w) : Ct G yX5_clear kw_X5_clear rm_X5_clear [.ref (S.ad 0 0)] w (PB (.int (nI (cnB (clP S) (S.ln 2)))) (fun w' => Kl G X w0 (S.sdI (clC S (S.ln 2))) w')) := by
  refine ct_intro RX5 "clear" (by decide +kernel) rfl rfl rfl (Nat.le_of_ble_eq_true rfl) [some (.ref (S.ad 0 0)), none, none, none] rfl (fun C => ?_)
  refine g_iconst (v := 0) dX5_clear_0 (by decide) ?_
  refine g_istore1 dX5_clear_1 ?_
  refine g_iconst (v := 0) dX5_clear_2 (by decide) ?_
  refine g_istore2 dX5_clear_3 ?_
  exact lp_clear2 hK C (S.ln 2 + 1) 0 w none (by omega) (Nat.zero_le _) (by rw [clC_0]; exact hK)

abbrev rm_X5_read : Room := { frames := 9, cells := 10, slots := 60, locals := 145 }

set_option maxRecDepth 100000 in
theorem kt_read_a {G : Gx} {X : Nat → Prop} {w0 w : Wd} {S : KS} (hK : Kl G X w0 S w) {y d g : Int32} {x : Int32} (h : inb y 0 (nI (S.ln 3) - 1) = false) : Ct G yX5_read kw_X5_read rm_X5_read [.ref (S.ad 0 0), .int y, .int d, .int g, .int x] w (PX "java/lang/IllegalArgumentException" w) := by
  refine ct_intro RX5 "read" (by decide +kernel) rfl rfl rfl (Nat.le_of_ble_eq_true rfl) [some (.ref (S.ad 0 0)), some (.int y), some (.int d), some (.int g), some (.int x), none, none, none] rfl (fun C => ?_)
  refine g_aload0 dX5_read_0 ?_
  refine g_iload1 dX5_read_1 ?_
  refine g_callV1 kc6 (ct_rdrAt_no hK h) md_X5_readerAt dX5_read_2 ml_X5_164 im_X5_readerAt se_X5_readerAt hK.g0 (RmOk.of (Nat.le_of_ble_eq_true rfl) (Nat.le_of_ble_eq_true rfl) (Nat.le_of_ble_eq_true rfl) (Nat.le_of_ble_eq_true rfl) (Nat.le_of_ble_eq_true rfl)) kr_X (kx_X ?_)
  refine gx_out (fun _ h => nomatch h) ?_ (Nat.le_of_ble_eq_true rfl) (Nat.le_of_ble_eq_true rfl)
  exact ⟨rfl, rfl⟩

set_option maxRecDepth 100000 in
theorem kt_read_b1 {G : Gx} {X : Nat → Prop} {w0 w : Wd} {S : KS} (hK : Kl G X w0 S w) {r : Nat} (hr : r < S.ln 3) {d g : Int32} {x : Int32} (h : inb d 0 (nI (S.ln 2) - 1) = false) : Ct G yX5_read kw_X5_read rm_X5_read [.ref (S.ad 0 0), .int (nI r), .int d, .int g, .int x] w (PX "java/lang/IndexOutOfBoundsException" w) := by
  refine ct_intro RX5 "read" (by decide +kernel) rfl rfl rfl (Nat.le_of_ble_eq_true rfl) [some (.ref (S.ad 0 0)), some (.int (nI r)), some (.int d), some (.int g), some (.int x), none, none, none] rfl (fun C => ?_)
  refine g_aload0 dX5_read_0 ?_
  refine g_iload1 dX5_read_1 ?_
  refine g_callV1 kc6 (ct_rdrAt_ok hK hr) md_X5_readerAt dX5_read_2 ml_X5_164 im_X5_readerAt se_X5_readerAt hK.g0 (RmOk.of (Nat.le_of_ble_eq_true rfl) (Nat.le_of_ble_eq_true rfl) (Nat.le_of_ble_eq_true rfl) (Nat.le_of_ble_eq_true rfl) (Nat.le_of_ble_eq_true rfl)) (kr_V ?_) kx_V
  refine g_astore5 dX5_read_5 ?_
  refine g_aload0 dX5_read_7 ?_
  refine g_iload2 dX5_read_8 ?_
  refine g_callV1 kc6 (ct_docAt_no hK h) md_X5_documentAt dX5_read_9 ml_X5_145 im_X5_documentAt se_X5_documentAt hK.g0 (RmOk.of (Nat.le_of_ble_eq_true rfl) (Nat.le_of_ble_eq_true rfl) (Nat.le_of_ble_eq_true rfl) (Nat.le_of_ble_eq_true rfl) (Nat.le_of_ble_eq_true rfl)) kr_X (kx_X ?_)
  refine gx_out (fun _ h => nomatch h) ?_ (Nat.le_of_ble_eq_true rfl) (Nat.le_of_ble_eq_true rfl)
  exact ⟨rfl, rfl⟩

set_option maxRecDepth 100000 in
theorem kt_read_b2 {G : Gx} {X : Nat → Prop} {w0 w : Wd} {S : KS} (hK : Kl G X w0 S w) {r : Nat} (hr : r < S.ln 3) {d : Nat} (hd : d < S.ln 2) {f n : Nat} (hf : S.dI d 0 = nI f) (hn : S.dI d 3 = nI n) (hfn : f + n ≤ S.ln (S.dR d + 4)) {g : Int32} {x : Int32} (h : inb g 0 (nI n - 1) = false) : Ct G yX5_read kw_X5_read rm_X5_read [.ref (S.ad 0 0), .int (nI r), .int (nI d), .int g, .int x] w (PX "java/lang/IndexOutOfBoundsException" w) := by
  have hr2 : 2 < S.nn 3 := by have := hK.u3; omega
  have hd8 : d < S.nn 8 := hK.cl.el 2 d hr2 hd
  refine ct_intro RX5 "read" (by decide +kernel) rfl rfl rfl (Nat.le_of_ble_eq_true rfl) [some (.ref (S.ad 0 0)), some (.int (nI r)), some (.int (nI d)), some (.int g), some (.int x), none, none, none] rfl (fun C => ?_)
  refine g_aload0 dX5_read_0 ?_
  refine g_iload1 dX5_read_1 ?_
  refine g_callV1 kc6 (ct_rdrAt_ok hK hr) md_X5_readerAt dX5_read_2 ml_X5_164 im_X5_readerAt se_X5_readerAt hK.g0 (RmOk.of (Nat.le_of_ble_eq_true rfl) (Nat.le_of_ble_eq_true rfl) (Nat.le_of_ble_eq_true rfl) (Nat.le_of_ble_eq_true rfl) (Nat.le_of_ble_eq_true rfl)) (kr_V ?_) kx_V
  refine g_astore5 dX5_read_5 ?_
  refine g_aload0 dX5_read_7 ?_
  refine g_iload2 dX5_read_8 ?_
  refine g_callV1 kc6 (ct_docAt_ok hK hd) md_X5_documentAt dX5_read_9 ml_X5_145 im_X5_documentAt se_X5_documentAt hK.g0 (RmOk.of (Nat.le_of_ble_eq_true rfl) (Nat.le_of_ble_eq_true rfl) (Nat.le_of_ble_eq_true rfl) (Nat.le_of_ble_eq_true rfl) (Nat.le_of_ble_eq_true rfl)) (kr_V ?_) kx_V
  refine g_astore6 dX5_read_12 ?_
  refine g_aload6 dX5_read_14 ?_
  refine g_iload3 dX5_read_16 ?_
  refine g_callS2 (ct_pageOf_no hK hd8 hf hn hfn h) md_X5_pageOf dX5_read_17 ml_X5_181 st_X5_pageOf (RmOk.of (Nat.le_of_ble_eq_true rfl) (Nat.le_of_ble_eq_true rfl) (Nat.le_of_ble_eq_true rfl) (Nat.le_of_ble_eq_true rfl) (Nat.le_of_ble_eq_true rfl)) kr_X (kx_X ?_)
  refine gx_out (fun _ h => nomatch h) ?_ (Nat.le_of_ble_eq_true rfl) (Nat.le_of_ble_eq_true rfl)
  exact ⟨rfl, rfl⟩

set_option maxRecDepth 100000 in
theorem kt_read_b3 {G : Gx} {X : Nat → Prop} {w0 w : Wd} {S : KS} (hK : Kl G X w0 S w) {r : Nat} (hr : r < S.ln 3) {d : Nat} (hd : d < S.ln 2) {f n : Nat} (hf : S.dI d 0 = nI f) (hn : S.dI d 3 = nI n) (hfn : f + n ≤ S.ln (S.dR d + 4)) {g : Nat} (hg : g < n) {x : Int32} (h : hasB (nI (S.pS (S.rF (S.dR d) + (f + g)))) x = false) : Ct G yX5_read kw_X5_read rm_X5_read [.ref (S.ad 0 0), .int (nI r), .int (nI d), .int (nI g), .int x] w (PX "java/lang/IndexOutOfBoundsException" w) := by
  have hr2 : 2 < S.nn 3 := by have := hK.u3; omega
  have hd8 : d < S.nn 8 := hK.cl.el 2 d hr2 hd
  have hr5 := hK.cl.dR d hd8
  have hr53 : S.dR d + 4 < S.nn 3 := by have := hK.u3; omega
  have hp6 : S.rF (S.dR d) + (f + g) < S.nn 6 := hK.cl.el (S.dR d + 4) (f + g) hr53 (by omega)
  have hp7 := Nat.lt_of_lt_of_le hp6 hK.cl.c7
  refine ct_intro RX5 "read" (by decide +kernel) rfl rfl rfl (Nat.le_of_ble_eq_true rfl) [some (.ref (S.ad 0 0)), some (.int (nI r)), some (.int (nI d)), some (.int (nI g)), some (.int x), none, none, none] rfl (fun C => ?_)
  refine g_aload0 dX5_read_0 ?_
  refine g_iload1 dX5_read_1 ?_
  refine g_callV1 kc6 (ct_rdrAt_ok hK hr) md_X5_readerAt dX5_read_2 ml_X5_164 im_X5_readerAt se_X5_readerAt hK.g0 (RmOk.of (Nat.le_of_ble_eq_true rfl) (Nat.le_of_ble_eq_true rfl) (Nat.le_of_ble_eq_true rfl) (Nat.le_of_ble_eq_true rfl) (Nat.le_of_ble_eq_true rfl)) (kr_V ?_) kx_V
  refine g_astore5 dX5_read_5 ?_
  refine g_aload0 dX5_read_7 ?_
  refine g_iload2 dX5_read_8 ?_
  refine g_callV1 kc6 (ct_docAt_ok hK hd) md_X5_documentAt dX5_read_9 ml_X5_145 im_X5_documentAt se_X5_documentAt hK.g0 (RmOk.of (Nat.le_of_ble_eq_true rfl) (Nat.le_of_ble_eq_true rfl) (Nat.le_of_ble_eq_true rfl) (Nat.le_of_ble_eq_true rfl) (Nat.le_of_ble_eq_true rfl)) (kr_V ?_) kx_V
  refine g_astore6 dX5_read_12 ?_
  refine g_aload6 dX5_read_14 ?_
  refine g_iload3 dX5_read_16 ?_
  refine g_callS2 (ct_pageOf_ok hK hd8 hf hn hfn hg) md_X5_pageOf dX5_read_17 ml_X5_181 st_X5_pageOf (RmOk.of (Nat.le_of_ble_eq_true rfl) (Nat.le_of_ble_eq_true rfl) (Nat.le_of_ble_eq_true rfl) (Nat.le_of_ble_eq_true rfl) (Nat.le_of_ble_eq_true rfl)) (kr_V ?_) kx_V
  refine g_astore7 dX5_read_20 ?_
  refine g_aload7 dX5_read_22 ?_
  refine g_iload4 dX5_read_24 ?_
  refine g_callVN1 kc3 (ct_has (hK.g6 hp6) (hK.g7 hp7)) md_X2_has dX5_read_26 ml_X5_185 im_X2_has se_X2_has (hK.g6 hp6) (RmOk.of (Nat.le_of_ble_eq_true rfl) (Nat.le_of_ble_eq_true rfl) (Nat.le_of_ble_eq_true rfl) (Nat.le_of_ble_eq_true rfl) (Nat.le_of_ble_eq_true rfl)) (kr_V ?_) kn_V
  refine g_if_ne_f (tgt := 42) dX5_read_29 (by decide) (by rw [h]; decide) ?_
  refine g_throwS tw_X5_176_188_180 dX5_read_32 dX5_read_35 dX5_read_36 dX5_read_38 dX5_read_41 (fun _ h => nomatch h) (Nat.le_of_ble_eq_true rfl) (Nat.le_of_ble_eq_true rfl) ?_ (Nat.le_of_ble_eq_true rfl) (Nat.le_of_ble_eq_true rfl)
  exact ⟨rfl, rfl⟩

set_option maxRecDepth 100000 in
theorem kt_read_d {G : Gx} {X : Nat → Prop} {w0 w : Wd} {S : KS} (hK : Kl G X w0 S w) {r : Nat} (hr : r < S.ln 3) (hlk : S.rd r 0 = bI (decide (r = 0))) {d : Nat} (hd : d < S.ln 2) {f n : Nat} (hf : S.dI d 0 = nI f) (hn : S.dI d 3 = nI n) (hfn : f + n ≤ S.ln (S.dR d + 4)) {g : Nat} (hg : g < n) {x : Int32} (h : hasB (nI (S.pS (S.rF (S.dR d) + (f + g)))) x = true) (hs : seeS S r d = true) : Ct G yX5_read kw_X5_read rm_X5_read [.ref (S.ad 0 0), .int (nI r), .int (nI d), .int (nI g), .int x] w (PV (.int (if x = S.rd r 3 then -1 else S.pV (S.rF (S.dR d) + (f + g)) x.toNatClampNeg)) w) := by
  have hr2 : 2 < S.nn 3 := by have := hK.u3; omega
  have hd8 : d < S.nn 8 := hK.cl.el 2 d hr2 hd
  have hr5 := hK.cl.dR d hd8
  have hr53 : S.dR d + 4 < S.nn 3 := by have := hK.u3; omega
  have hp6 : S.rF (S.dR d) + (f + g) < S.nn 6 := hK.cl.el (S.dR d + 4) (f + g) hr53 (by omega)
  have hp7 := Nat.lt_of_lt_of_le hp6 hK.cl.c7
  have hr3 : 3 < S.nn 3 := by have := hK.u3; omega
  have hr9 : r < S.nn 9 := hK.cl.el 3 r hr3 hr
  have hgq := hK.g9 hr9
  rw [hlk] at hgq
  refine ct_intro RX5 "read" (by decide +kernel) rfl rfl rfl (Nat.le_of_ble_eq_true rfl) [some (.ref (S.ad 0 0)), some (.int (nI r)), some (.int (nI d)), some (.int (nI g)), some (.int x), none, none, none] rfl (fun C => ?_)
  refine g_aload0 dX5_read_0 ?_
  refine g_iload1 dX5_read_1 ?_
  refine g_callV1 kc6 (ct_rdrAt_ok hK hr) md_X5_readerAt dX5_read_2 ml_X5_164 im_X5_readerAt se_X5_readerAt hK.g0 (RmOk.of (Nat.le_of_ble_eq_true rfl) (Nat.le_of_ble_eq_true rfl) (Nat.le_of_ble_eq_true rfl) (Nat.le_of_ble_eq_true rfl) (Nat.le_of_ble_eq_true rfl)) (kr_V ?_) kx_V
  refine g_astore5 dX5_read_5 ?_
  refine g_aload0 dX5_read_7 ?_
  refine g_iload2 dX5_read_8 ?_
  refine g_callV1 kc6 (ct_docAt_ok hK hd) md_X5_documentAt dX5_read_9 ml_X5_145 im_X5_documentAt se_X5_documentAt hK.g0 (RmOk.of (Nat.le_of_ble_eq_true rfl) (Nat.le_of_ble_eq_true rfl) (Nat.le_of_ble_eq_true rfl) (Nat.le_of_ble_eq_true rfl) (Nat.le_of_ble_eq_true rfl)) (kr_V ?_) kx_V
  refine g_astore6 dX5_read_12 ?_
  refine g_aload6 dX5_read_14 ?_
  refine g_iload3 dX5_read_16 ?_
  refine g_callS2 (ct_pageOf_ok hK hd8 hf hn hfn hg) md_X5_pageOf dX5_read_17 ml_X5_181 st_X5_pageOf (RmOk.of (Nat.le_of_ble_eq_true rfl) (Nat.le_of_ble_eq_true rfl) (Nat.le_of_ble_eq_true rfl) (Nat.le_of_ble_eq_true rfl) (Nat.le_of_ble_eq_true rfl)) (kr_V ?_) kx_V
  refine g_astore7 dX5_read_20 ?_
  refine g_aload7 dX5_read_22 ?_
  refine g_iload4 dX5_read_24 ?_
  refine g_callVN1 kc3 (ct_has (hK.g6 hp6) (hK.g7 hp7)) md_X2_has dX5_read_26 ml_X5_185 im_X2_has se_X2_has (hK.g6 hp6) (RmOk.of (Nat.le_of_ble_eq_true rfl) (Nat.le_of_ble_eq_true rfl) (Nat.le_of_ble_eq_true rfl) (Nat.le_of_ble_eq_true rfl) (Nat.le_of_ble_eq_true rfl)) (kr_V ?_) kn_V
  refine g_if_ne_t (tgt := 42) dX5_read_29 (by decide) (by rw [h]; decide) ?_
  refine g_aload5 dX5_read_42 ?_
  refine g_aload6 dX5_read_44 ?_
  refine g_callVN1 kc4 (ct_csees hgq (hK.g8 hd8)) md_X3_sees dX5_read_46 ml_X5_168 im_X3_sees se_X3_sees hgq (RmOk.of (Nat.le_of_ble_eq_true rfl) (Nat.le_of_ble_eq_true rfl) (Nat.le_of_ble_eq_true rfl) (Nat.le_of_ble_eq_true rfl) (Nat.le_of_ble_eq_true rfl)) (kr_V ?_) kn_V
  refine g_if_ne_t (tgt := 62) dX5_read_49 (by decide) (by rw [show seeC (decide (r = 0)) (S.rd r 1) (S.rd r 2) (S.dI d 1) (S.dI d 4) = true from hs]; decide) ?_
  refine g_iload4 dX5_read_62 ?_
  refine g_aload5 dX5_read_64 ?_
  refine g_getf kc4 dX5_read_66 fl_X5_195 (by decide) hgq rfl ?_
  refine g_icmp_ne (tgt := 76) dX5_read_69 (by decide) (fun h69 => ?_) (fun h69 => ?_)
  · skip
    refine g_aload7 dX5_read_76 ?_
    refine g_iload4 dX5_read_78 ?_
    refine g_callVN1 kc3 (ct_valueAt (hK.g6 hp6) (hK.g7 hp7)) md_X2_valueAt dX5_read_80 ml_X5_198 im_X2_valueAt se_X2_valueAt (hK.g6 hp6) (RmOk.of (Nat.le_of_ble_eq_true rfl) (Nat.le_of_ble_eq_true rfl) (Nat.le_of_ble_eq_true rfl) (Nat.le_of_ble_eq_true rfl) (Nat.le_of_ble_eq_true rfl)) (kr_V ?_) kn_V
    refine g_iret dX5_read_83 ?_ (Nat.le_of_ble_eq_true rfl) (Nat.le_of_ble_eq_true rfl)
    first | exact ⟨by rw [if_pos h69], rfl⟩ | exact ⟨by rw [if_pos h, if_neg h69], rfl⟩
  · skip
    refine g_iconst (v := (-1)) dX5_read_72 (by decide) ?_
    refine g_goto (tgt := 83) dX5_read_73 (by decide) ?_
    refine g_iret dX5_read_83 ?_ (Nat.le_of_ble_eq_true rfl) (Nat.le_of_ble_eq_true rfl)
    first | exact ⟨by rw [if_pos h69], rfl⟩ | exact ⟨by rw [if_pos h, if_neg h69], rfl⟩

