/-! Putting documents together; ends of runs. -/
def pdAc (S : KS) (r : Nat) (la : Int32) (i : Nat) : Int32 := if hasB (nI (S.pS (S.rF r + i))) la = true then S.pV (S.rF r + i) la.toNatClampNeg else -1
def pdG (S : KS) (i : Nat) (ac kd : Int32) : Nat → Nat → Int32 := updF S.dI (S.nn 8) (f5 (nI i) ac kd 0 0)
def pdNew (S : KS) (r i : Nat) (ac kd : Int32) : KS := (((S.snn (updN S.nn 8 (S.nn 8 + 1))).sdR (updN S.dR (S.nn 8) r)).sdI (upd2 (pdG S i ac kd) (S.nn 8) 3 (pdG S i ac kd (S.nn 8) 3 + 1))).sln (updN S.ln 2 (S.ln 2 + 1))
def pdOld (S : KS) : KS := S.sdI (upd2 S.dI (S.nn 8 - 1) 3 (S.dI (S.nn 8 - 1) 3 + 1))
def pdCd (S : KS) (r : Nat) (la : Int32) (i : Nat) : Bool := decide (i = 0) || (!decide (pdAc S r la i = -1) && !decide (pdAc S r la i = S.dI (S.nn 8 - 1) 1))
def pdKd (S : KS) (r : Nat) (ka : Int32) (i : Nat) : Int32 := kdC (S.pS (S.rF r + i)) (S.pV (S.rF r + i)) ka
def pdStep (r : Nat) (la ka : Int32) (i : Nat) (S : KS) : KS := if pdCd S r la i = true then pdNew S r i (pdAc S r la i) (pdKd S r ka i) else pdOld S
def pdL (r : Nat) (la ka : Int32) : Nat → KS → KS
  | 0, S => S
  | i + 1, S => pdStep r la ka i (pdL r la ka i S)
theorem pdStep_v1 (r : Nat) (la ka : Int32) (i : Nat) (S : KS) : (pdStep r la ka i S).v = (pdStep r la ka i S.v).v := by
  show (if pdCd S r la i = true then pdNew S r i (pdAc S r la i) (pdKd S r ka i) else pdOld S).v = (if pdCd S r la i = true then pdNew S.v r i (pdAc S r la i) (pdKd S r ka i) else pdOld S.v).v
  by_cases h : pdCd S r la i = true
  · rw [if_pos h, if_pos h]; rfl
  · rw [if_neg h, if_neg h]; rfl
theorem pdStep_v {S T : KS} (h : S.v = T.v) (r : Nat) (la ka : Int32) (i : Nat) : (pdStep r la ka i S).v = (pdStep r la ka i T).v := by
  rw [pdStep_v1, h, ← pdStep_v1]
theorem fAd_g {G : Gx} {X : Nat → Prop} {w0 w : Wd} {S : KS} (hK : Kl G X w0 S w) {o : Option Nat} (ho : ∀ g, o = some g → g < S.nn 2) : w (fAd S o) = some (eFm (fVl S 0 o) (fVl S 1 o) (fVl S 2 o)) := by
  cases o with
  | none => exact hK.g1 (by rw [hK.cl.c0.2.1]; decide)
  | some g => exact hK.g2 (ho g rfl)

abbrev rm_X5_putTogether : Room := { frames := 7, cells := 270, slots := 2100, locals := 191 }

set_option maxRecDepth 100000 in
theorem lp_pt {G : Gx} {X : Nat → Prop} {w0 : Wd} {S : KS} {r : Nat} {la ka : Int32} {o : Option Nat} (hn : S.ln (r + 4) ≤ 120) (h120 : S.ln 2 + S.ln (r + 4) ≤ 120) (C : Cx) : ∀ (M : Nat) (i : Nat) (w1 : Wd) (S1 : KS) (c : Nat) (k : Nat) (x3 : Option Value) (x5 : Option Value) (x6 : Option Value), S.ln (r + 4) - i < M → i ≤ S.ln (r + 4) → 1 ≤ i → Kl G X w0 S1 w1 → S1.v = (pdL r la ka i S).v → S1.ad 0 0 = S.ad 0 0 → x3 = some (.ref (S1.ad 8 (S1.nn 8 - 1))) → S1.nn 8 = S1.ln 2 → S1.ln 2 ≤ S.ln 2 + i ∧ 1 ≤ S1.ln 2 → S1.ln (r + 4) = S.ln (r + 4) → r < S1.nn 5 → (fVl S1 1 o = la ∧ fVl S1 2 o = ka) → (∀ g, o = some g → g < S1.nn 2) → c ≤ 2 * i + 5 → k + 4 * S.cp 2 ≤ 7 * i + 4 * S1.cp 2 + 20 →
    Go G rm_X5_putTogether cX5_putTogether RX5 (none, "putTogether", []) C (QP G rm_X5_putTogether (PN (KQ G X w0 S (pdL r la ka (S.ln (r + 4)) S))) C) 14 [some (.ref (S1.ad 0 0)), some (.ref (S1.ad 5 r)), some (.ref (fAd S1 o)), x3, some (.int (nI i)), x5, x6] [] w1 c k := by
  intro M
  induction M with
  | zero => intro i w1 S1 c k x3 x5 x6 hM9; exact absurd hM9 (Nat.not_lt_zero _)
  | succ M ih =>
    intro i w1 S1 c k x3 x5 x6 hM9 hi hi1 hK1 hv ha hx3 hn8 hl2 hl4 hr1 hho2 hho hc hk
    have hr43 : r + 4 < S1.nn 3 := by have := hK1.u3; omega
    have hr23 : 2 < S1.nn 3 := by have := hK1.u3; omega
    have hcp2 := hK1.cl.cp 2 hr23
    have hgs : S1.ln 2 ≤ 120 → gslot (S1.ln 2) (S1.cp 2) ≤ 200 := fun z => gslot_le hcp2.1 hcp2.2 z
    have hgf := fAd_g hK1 hho
    obtain ⟨hla, hka⟩ := hho2
    subst hx3
    refine g_iload4 dX5_putTogether_14 ?_
    refine g_aload1 dX5_putTogether_16 ?_
    refine g_getf kc5 dX5_putTogether_17 fl_X5_103 (by decide) (hK1.g5 hr1) rfl ?_
    refine g_callV0 kc0 (hK1.ctSize (l := r + 4) hr43) md_Jx4a65c_size_8abf5 dX5_putTogether_20 ml_X5_85 im_Jx4a65c_size_8abf5 se_Jx4a65c_size_8abf5 (hK1.g3 (i := r + 4) hr43) (RmOk.of (Nat.le_of_ble_eq_true rfl) (Nat.le_of_ble_eq_true rfl) (Nat.le_of_ble_eq_true rfl) (by (try dsimp only [rm_X5_putTogether, rm_Jx4a65c_size_8abf5]); omega) (by (try dsimp only [rm_X5_putTogether, rm_Jx4a65c_size_8abf5]); omega)) (kr_V ?_) kx_V
    refine g_icmp_ge (tgt := 114) dX5_putTogether_23 (by decide) (fun h23 => ?_) (fun h23 => ?_)
    · skip
      refine g_vret dX5_putTogether_114 ?_ (by (try dsimp only [rm_X5_putTogether, rm_Jx4a65c_size_8abf5]); omega) (by (try dsimp only [rm_X5_putTogether, rm_Jx4a65c_size_8abf5]); omega)
      have hge := idx_ge (i := i) (n := S1.ln (r + 4)) (by omega) (by omega) h23
      obtain rfl : i = S.ln (r + 4) := by omega
      exact ⟨rfl, S1, hK1, hv, ha⟩
    · skip
      have hlt : i < S1.ln (r + 4) := idx_lt (by omega) (by omega) h23
      have hp6 : S1.rF r + i < S1.nn 6 := hK1.cl.el (r + 4) i hr43 hlt
      have hp7 := Nat.lt_of_lt_of_le hp6 hK1.cl.c7
      have hgs := hgs (by omega)
      have h8O : S1.nn 8 - 1 < S1.nn 8 := by omega
      have hgO := hK1.g8 h8O
      have hbO := hK1.b8 h8O
      have hpO := hK1.pLen (i := S1.nn 8 - 1) h8O (S1.dI (S1.nn 8 - 1) 3 + 1)
      refine g_aload1 dX5_putTogether_26 ?_
      refine g_getf kc5 dX5_putTogether_27 fl_X5_103 (by decide) (hK1.g5 hr1) rfl ?_
      refine g_iload4 dX5_putTogether_30 ?_
      refine g_callV1 kc0 (hK1.ctGetP (l := r) hr43 hlt) md_Jx4a65c_get_915e3 dX5_putTogether_32 ml_X5_126 im_Jx4a65c_get_915e3 se_Jx4a65c_get_915e3 (hK1.g3 (i := r + 4) hr43) (RmOk.of (Nat.le_of_ble_eq_true rfl) (Nat.le_of_ble_eq_true rfl) (Nat.le_of_ble_eq_true rfl) (by (try dsimp only [rm_X5_putTogether, rm_Jx4a65c_size_8abf5, rm_Jx4a65c_get_915e3]); omega) (by (try dsimp only [rm_X5_putTogether, rm_Jx4a65c_size_8abf5, rm_Jx4a65c_get_915e3]); omega)) (kr_V ?_) kx_V
      refine g_cast kc3 dX5_putTogether_35 cl_X5_35 (hK1.g6 hp6) ?_
      refine g_astore5 dX5_putTogether_38 ?_
      refine g_aload5 dX5_putTogether_40 ?_
      refine g_aload2 dX5_putTogether_42 ?_
      refine g_getf kc2 dX5_putTogether_43 fl_X5_252 (by decide) hgf rfl ?_
      refine g_callVN1 kc3 (ct_valueAt (hK1.g6 hp6) (hK1.g7 hp7)) md_X2_valueAt dX5_putTogether_46 ml_X5_198 im_X2_valueAt se_X2_valueAt (hK1.g6 hp6) (RmOk.of (Nat.le_of_ble_eq_true rfl) (Nat.le_of_ble_eq_true rfl) (Nat.le_of_ble_eq_true rfl) (by (try dsimp only [rm_X5_putTogether, rm_Jx4a65c_size_8abf5, rm_Jx4a65c_get_915e3, rm_X2_valueAt]); omega) (by (try dsimp only [rm_X5_putTogether, rm_Jx4a65c_size_8abf5, rm_Jx4a65c_get_915e3, rm_X2_valueAt]); omega)) (kr_V ?_) kn_V
      rw [show (if hasB (nI (S1.pS (S1.rF r + i))) (fVl S1 1 o) = true then S1.pV (S1.rF r + i) (fVl S1 1 o).toNatClampNeg else -1) = pdAc S1 r (fVl S1 1 o) i from rfl]
      refine g_istore6 dX5_putTogether_49 ?_
      refine g_aload3 dX5_putTogether_51 ?_
      refine g_ifnull dX5_putTogether_52 ?_
      refine g_iload6 dX5_putTogether_55 ?_
      refine g_iconst (v := (-1)) dX5_putTogether_57 (by decide) ?_
      refine g_icmp_eq (tgt := 98) dX5_putTogether_58 (by decide) (fun h58 => ?_) (fun h58 => ?_)
      · skip
        refine g_aload3 dX5_putTogether_98 ?_
        refine g_dup dX5_putTogether_99 rfl ?_
        refine g_getf kc1 dX5_putTogether_100 fl_X5_161 (by decide) hgO rfl ?_
        refine g_iconst (v := 1) dX5_putTogether_103 (by decide) ?_
        refine g_iadd dX5_putTogether_104 ?_
        refine g_putf (fs' := [.ref (S1.ad 5 (S1.dR (S1.nn 8 - 1))), .int (S1.dI (S1.nn 8 - 1) 0), .int (S1.dI (S1.nn 8 - 1) 1), .int (S1.dI (S1.nn 8 - 1) 2), .int (S1.dI (S1.nn 8 - 1) 3 + 1), .int (S1.dI (S1.nn 8 - 1) 4)]) kc1 dX5_putTogether_105 fl_X5_161 (by decide) rfl hgO hbO rfl rfl (Nat.le_of_ble_eq_true rfl) rfl ?_
        refine g_iinc4 (v' := (nI (i + 1))) dX5_putTogether_108 (nI_1 i) ?_
        refine g_goto (tgt := 14) dX5_putTogether_111 (by decide) ?_
        have hC : ¬ pdCd S1 r (fVl S1 1 o) i = true := by unfold pdCd; rw [decide_eq_false (show ¬ i = 0 by omega), decide_eq_true h58, Bool.not_true, Bool.false_and, Bool.false_or]; exact fun z => by cases z
        have hvv : (S1.sdI (upd2 S1.dI (S1.nn 8 - 1) 3 (S1.dI (S1.nn 8 - 1) 3 + 1))).v = (pdStep r (fVl S1 1 o) (fVl S1 2 o) i S1).v := by
          unfold pdStep
          rw [if_neg hC]
          rfl
        have hv2 := hvv.trans (pdStep_v hv r (fVl S1 1 o) (fVl S1 2 o) i)
        rw [hla, hka] at hv2
        refine ih (i + 1) _ (S1.sdI (upd2 S1.dI (S1.nn 8 - 1) 3 (S1.dI (S1.nn 8 - 1) 3 + 1))) _ _ (some (.ref (S1.ad 8 (S1.nn 8 - 1)))) _ _ (by omega) (by omega) (by omega) hpO hv2 ha rfl hn8 ⟨(by show S1.ln 2 ≤ S.ln 2 + (i + 1); omega), hl2.2⟩ hl4 hr1 ⟨hla, hka⟩ hho ?_ ?_
        · (try dsimp only [rm_X2_valueAt, rm_Jx4a65c_size_8abf5, rm_Jx4a65c_get_915e3]); omega
        · show _ + 4 * S.cp 2 ≤ 7 * (i + 1) + 4 * S1.cp 2 + 20
          (try dsimp only [rm_X2_valueAt, rm_Jx4a65c_size_8abf5, rm_Jx4a65c_get_915e3]); omega
      · skip
        refine g_iload6 dX5_putTogether_61 ?_
        refine g_aload3 dX5_putTogether_63 ?_
        refine g_getf kc1 dX5_putTogether_64 fl_X5_155 (by decide) hgO rfl ?_
        refine g_icmp_eq (tgt := 98) dX5_putTogether_67 (by decide) (fun h67 => ?_) (fun h67 => ?_)
        · skip
          refine g_aload3 dX5_putTogether_98 ?_
          refine g_dup dX5_putTogether_99 rfl ?_
          refine g_getf kc1 dX5_putTogether_100 fl_X5_161 (by decide) hgO rfl ?_
          refine g_iconst (v := 1) dX5_putTogether_103 (by decide) ?_
          refine g_iadd dX5_putTogether_104 ?_
          refine g_putf (fs' := [.ref (S1.ad 5 (S1.dR (S1.nn 8 - 1))), .int (S1.dI (S1.nn 8 - 1) 0), .int (S1.dI (S1.nn 8 - 1) 1), .int (S1.dI (S1.nn 8 - 1) 2), .int (S1.dI (S1.nn 8 - 1) 3 + 1), .int (S1.dI (S1.nn 8 - 1) 4)]) kc1 dX5_putTogether_105 fl_X5_161 (by decide) rfl hgO hbO rfl rfl (Nat.le_of_ble_eq_true rfl) rfl ?_
          refine g_iinc4 (v' := (nI (i + 1))) dX5_putTogether_108 (nI_1 i) ?_
          refine g_goto (tgt := 14) dX5_putTogether_111 (by decide) ?_
          have hC : ¬ pdCd S1 r (fVl S1 1 o) i = true := by unfold pdCd; rw [decide_eq_false (show ¬ i = 0 by omega), decide_eq_true h67, Bool.not_true, Bool.and_false, Bool.false_or]; exact fun z => by cases z
          have hvv : (S1.sdI (upd2 S1.dI (S1.nn 8 - 1) 3 (S1.dI (S1.nn 8 - 1) 3 + 1))).v = (pdStep r (fVl S1 1 o) (fVl S1 2 o) i S1).v := by
            unfold pdStep
            rw [if_neg hC]
            rfl
          have hv2 := hvv.trans (pdStep_v hv r (fVl S1 1 o) (fVl S1 2 o) i)
          rw [hla, hka] at hv2
          refine ih (i + 1) _ (S1.sdI (upd2 S1.dI (S1.nn 8 - 1) 3 (S1.dI (S1.nn 8 - 1) 3 + 1))) _ _ (some (.ref (S1.ad 8 (S1.nn 8 - 1)))) _ _ (by omega) (by omega) (by omega) hpO hv2 ha rfl hn8 ⟨(by show S1.ln 2 ≤ S.ln 2 + (i + 1); omega), hl2.2⟩ hl4 hr1 ⟨hla, hka⟩ hho ?_ ?_
          · (try dsimp only [rm_X2_valueAt, rm_Jx4a65c_size_8abf5, rm_Jx4a65c_get_915e3]); omega
          · show _ + 4 * S.cp 2 ≤ 7 * (i + 1) + 4 * S1.cp 2 + 20
            (try dsimp only [rm_X2_valueAt, rm_Jx4a65c_size_8abf5, rm_Jx4a65c_get_915e3]); omega
        · skip
          refine g_new (fs := [.null, .int 0, .int 0, .int 0, .int 0, .int 0]) kc1 dX5_putTogether_70 cl_X5_150 ins_X0 ini_X0 (by intro j hj; rcases (show j = 0 ∨ j = 1 ∨ j = 2 ∨ j = 3 ∨ j = 4 ∨ j = 5 by omega) with rfl | rfl | rfl | rfl | rfl | rfl <;> rfl) (by (try dsimp only [rm_X5_putTogether, rm_Jx4a65c_size_8abf5, rm_Jx4a65c_get_915e3, rm_X2_valueAt]); omega) (by (try dsimp only [rm_X5_putTogether, rm_Jx4a65c_size_8abf5, rm_Jx4a65c_get_915e3, rm_X2_valueAt]); omega) (fun q qn qb => ?_)
          have n6 := (up_n (e := eO 1 [.null, .int 0, .int 0, .int 0, .int 0, .int 0]) (ne_of_new (hK1.g6 hp6) qn)).trans (hK1.g6 hp6)
          have n7 := (up_n (e := eO 1 [.null, .int 0, .int 0, .int 0, .int 0, .int 0]) (ne_of_new (hK1.g7 hp7) qn)).trans (hK1.g7 hp7)
          have nf := (up_n (e := eO 1 [.null, .int 0, .int 0, .int 0, .int 0, .int 0]) (ne_of_new hgf qn)).trans hgf
          have n5 := (up_n (e := eO 1 [.null, .int 0, .int 0, .int 0, .int 0, .int 0]) (ne_of_new (hK1.g5 hr1) qn)).trans (hK1.g5 hr1)
          refine g_dup dX5_putTogether_73 rfl ?_
          refine g_aload1 dX5_putTogether_74 ?_
          refine g_iload4 dX5_putTogether_75 ?_
          refine g_iload6 dX5_putTogether_77 ?_
          refine g_aload5 dX5_putTogether_79 ?_
          refine g_aload2 dX5_putTogether_81 ?_
          refine g_callS2 (ct_kindOf n6 n7 nf) md_X5_kindOf dX5_putTogether_82 ml_X5_255 st_X5_kindOf (RmOk.of (Nat.le_of_ble_eq_true rfl) (Nat.le_of_ble_eq_true rfl) (Nat.le_of_ble_eq_true rfl) (by (try dsimp only [rm_X5_putTogether, rm_Jx4a65c_size_8abf5, rm_Jx4a65c_get_915e3, rm_X2_valueAt, rm_X5_kindOf]); omega) (by (try dsimp only [rm_X5_putTogether, rm_Jx4a65c_size_8abf5, rm_Jx4a65c_get_915e3, rm_X2_valueAt, rm_X5_kindOf]); omega)) (kr_V ?_) kx_V
          rw [show kdC (S1.pS (S1.rF r + i)) (S1.pV (S1.rF r + i)) (fVl S1 2 o) = pdKd S1 r (fVl S1 2 o) i from rfl]
          refine g_callIN4 (ct_X0_init n5 (up_s _ _ _) qb) md_X0_init dX5_putTogether_85 ml_X5_259 rfl im_X0_init (RmOk.of (Nat.le_of_ble_eq_true rfl) (Nat.le_of_ble_eq_true rfl) (Nat.le_of_ble_eq_true rfl) (by (try dsimp only [rm_X5_putTogether, rm_Jx4a65c_size_8abf5, rm_Jx4a65c_get_915e3, rm_X2_valueAt, rm_X5_kindOf, rm_X0_init]); omega) (by (try dsimp only [rm_X5_putTogether, rm_Jx4a65c_size_8abf5, rm_Jx4a65c_get_915e3, rm_X2_valueAt, rm_X5_kindOf, rm_X0_init]); omega)) (kr_N (fun w1 hw1 => ?_)) kn_N
          rw [up_up] at hw1
          subst hw1
          have hK2 := hK1.newD qn qb hr1 (nI i) (pdAc S1 r (fVl S1 1 o) i) (pdKd S1 r (fVl S1 2 o) i)
          have hva : q = elK (((S1.one 8 q).sdR (updN S1.dR (S1.nn 8) r)).sdI (pdG S1 i (pdAc S1 r (fVl S1 1 o) i) (pdKd S1 r (fVl S1 2 o) i))) 2 (S1.ln 2) := by
            show q = ad2 S1.ad 8 (S1.nn 8) q 8 (S1.ln 2)
            rw [hn8, ad2_s]
          have hr24 : 2 < (((S1.one 8 q).sdR (updN S1.dR (S1.nn 8) r)).sdI (pdG S1 i (pdAc S1 r (fVl S1 1 o) i) (pdKd S1 r (fVl S1 2 o) i))).nn 3 := hr23
          refine g_astore3 dX5_putTogether_88 ?_
          refine g_aload0 dX5_putTogether_89 ?_
          refine g_getf kc6 dX5_putTogether_90 fl_X5_42 (by decide) hK2.g0 rfl ?_
          refine g_aload3 dX5_putTogether_93 ?_
          refine g_callV1 kc0 (hK2.ctAddD (nl := gslot (S1.ln 2) (S1.cp 2)) hr24 (show S1.ln 2 ≤ 120 by omega) hva (by show S1.ln 2 < updN S1.nn 8 (S1.nn 8 + 1) 8; rw [updN_s]; omega) (Nat.le_refl _)) md_Jx4a65c_add_9ea2d dX5_putTogether_94 ml_X5_61 im_Jx4a65c_add_9ea2d se_Jx4a65c_add_9ea2d (hK2.g3 (i := 2) hr24) (RmOk.of (Nat.le_of_ble_eq_true rfl) (Nat.le_of_ble_eq_true rfl) (Nat.le_of_ble_eq_true rfl) (by (try dsimp only [rm_X5_putTogether, rm_Jx4a65c_size_8abf5, rm_Jx4a65c_get_915e3, rm_X2_valueAt, rm_X5_kindOf, rm_X0_init, rm_Jx4a65c_add_9ea2d]); omega) (by (try dsimp only [rm_X5_putTogether, rm_Jx4a65c_size_8abf5, rm_Jx4a65c_get_915e3, rm_X2_valueAt, rm_X5_kindOf, rm_X0_init, rm_Jx4a65c_add_9ea2d]); omega)) (kr_B (fun w1 hw1 => ?_)) kx_B
          obtain ⟨dd, cap, hK3, hcap⟩ := hw1
          have hK3 : Kl G X w0 ((((S1.one 8 q).sdR (updN S1.dR (S1.nn 8) r)).sdI (pdG S1 i (pdAc S1 r (fVl S1 1 o) i) (pdKd S1 r (fVl S1 2 o) i))).app 2 dd cap) w1 := hK3
          have hcap : gslot (S1.ln 2) (S1.cp 2) + 4 * S1.cp 2 ≤ 4 * cap := hcap
          have h88 : S1.nn 8 < ((((S1.one 8 q).sdR (updN S1.dR (S1.nn 8) r)).sdI (pdG S1 i (pdAc S1 r (fVl S1 1 o) i) (pdKd S1 r (fVl S1 2 o) i))).app 2 dd cap).nn 8 := by
            show S1.nn 8 < updN S1.nn 8 (S1.nn 8 + 1) 8
            rw [updN_s]; omega
          have hgN := hK3.g8 h88
          rw [show ((((S1.one 8 q).sdR (updN S1.dR (S1.nn 8) r)).sdI (pdG S1 i (pdAc S1 r (fVl S1 1 o) i) (pdKd S1 r (fVl S1 2 o) i))).app 2 dd cap).ad 8 (S1.nn 8) = q from ad2_s _ _ _ _] at hgN
          have hbN := hK3.b8 h88
          rw [show ((((S1.one 8 q).sdR (updN S1.dR (S1.nn 8) r)).sdI (pdG S1 i (pdAc S1 r (fVl S1 1 o) i) (pdKd S1 r (fVl S1 2 o) i))).app 2 dd cap).ad 8 (S1.nn 8) = q from ad2_s _ _ _ _] at hbN
          have hpN := hK3.pLen (i := S1.nn 8) h88 (((((S1.one 8 q).sdR (updN S1.dR (S1.nn 8) r)).sdI (pdG S1 i (pdAc S1 r (fVl S1 1 o) i) (pdKd S1 r (fVl S1 2 o) i))).app 2 dd cap).dI (S1.nn 8) 3 + 1)
          rw [show ((((S1.one 8 q).sdR (updN S1.dR (S1.nn 8) r)).sdI (pdG S1 i (pdAc S1 r (fVl S1 1 o) i) (pdKd S1 r (fVl S1 2 o) i))).app 2 dd cap).ad 8 (S1.nn 8) = q from ad2_s _ _ _ _] at hpN
          refine g_pop dX5_putTogether_97 rfl ?_
          refine g_aload3 dX5_putTogether_98 ?_
          refine g_dup dX5_putTogether_99 rfl ?_
          refine g_getf kc1 dX5_putTogether_100 fl_X5_161 (by decide) hgN rfl ?_
          refine g_iconst (v := 1) dX5_putTogether_103 (by decide) ?_
          refine g_iadd dX5_putTogether_104 ?_
          refine g_putf (fs' := [.ref (((((S1.one 8 q).sdR (updN S1.dR (S1.nn 8) r)).sdI (pdG S1 i (pdAc S1 r (fVl S1 1 o) i) (pdKd S1 r (fVl S1 2 o) i))).app 2 dd cap).ad 5 (((((S1.one 8 q).sdR (updN S1.dR (S1.nn 8) r)).sdI (pdG S1 i (pdAc S1 r (fVl S1 1 o) i) (pdKd S1 r (fVl S1 2 o) i))).app 2 dd cap).dR (S1.nn 8))), .int (((((S1.one 8 q).sdR (updN S1.dR (S1.nn 8) r)).sdI (pdG S1 i (pdAc S1 r (fVl S1 1 o) i) (pdKd S1 r (fVl S1 2 o) i))).app 2 dd cap).dI (S1.nn 8) 0), .int (((((S1.one 8 q).sdR (updN S1.dR (S1.nn 8) r)).sdI (pdG S1 i (pdAc S1 r (fVl S1 1 o) i) (pdKd S1 r (fVl S1 2 o) i))).app 2 dd cap).dI (S1.nn 8) 1), .int (((((S1.one 8 q).sdR (updN S1.dR (S1.nn 8) r)).sdI (pdG S1 i (pdAc S1 r (fVl S1 1 o) i) (pdKd S1 r (fVl S1 2 o) i))).app 2 dd cap).dI (S1.nn 8) 2), .int (((((S1.one 8 q).sdR (updN S1.dR (S1.nn 8) r)).sdI (pdG S1 i (pdAc S1 r (fVl S1 1 o) i) (pdKd S1 r (fVl S1 2 o) i))).app 2 dd cap).dI (S1.nn 8) 3 + 1), .int (((((S1.one 8 q).sdR (updN S1.dR (S1.nn 8) r)).sdI (pdG S1 i (pdAc S1 r (fVl S1 1 o) i) (pdKd S1 r (fVl S1 2 o) i))).app 2 dd cap).dI (S1.nn 8) 4)]) kc1 dX5_putTogether_105 fl_X5_161 (by decide) rfl hgN hbN rfl rfl (Nat.le_of_ble_eq_true rfl) rfl ?_
          refine g_iinc4 (v' := (nI (i + 1))) dX5_putTogether_108 (nI_1 i) ?_
          refine g_goto (tgt := 14) dX5_putTogether_111 (by decide) ?_
          have hC : pdCd S1 r (fVl S1 1 o) i = true := by unfold pdCd; rw [decide_eq_false (show ¬ i = 0 by omega), decide_eq_false h58, decide_eq_false h67] <;> rfl
          have hvv : (((((S1.one 8 q).sdR (updN S1.dR (S1.nn 8) r)).sdI (pdG S1 i (pdAc S1 r (fVl S1 1 o) i) (pdKd S1 r (fVl S1 2 o) i))).app 2 dd cap).sdI (upd2 ((((S1.one 8 q).sdR (updN S1.dR (S1.nn 8) r)).sdI (pdG S1 i (pdAc S1 r (fVl S1 1 o) i) (pdKd S1 r (fVl S1 2 o) i))).app 2 dd cap).dI (S1.nn 8) 3 (((((S1.one 8 q).sdR (updN S1.dR (S1.nn 8) r)).sdI (pdG S1 i (pdAc S1 r (fVl S1 1 o) i) (pdKd S1 r (fVl S1 2 o) i))).app 2 dd cap).dI (S1.nn 8) 3 + 1))).v = (pdStep r (fVl S1 1 o) (fVl S1 2 o) i S1).v := by
            unfold pdStep
            rw [if_pos hC]
            rfl
          have hv2 := hvv.trans (pdStep_v hv r (fVl S1 1 o) (fVl S1 2 o) i)
          refine ih (i + 1) _ (((((S1.one 8 q).sdR (updN S1.dR (S1.nn 8) r)).sdI (pdG S1 i (pdAc S1 r (fVl S1 1 o) i) (pdKd S1 r (fVl S1 2 o) i))).app 2 dd cap).sdI (upd2 ((((S1.one 8 q).sdR (updN S1.dR (S1.nn 8) r)).sdI (pdG S1 i (pdAc S1 r (fVl S1 1 o) i) (pdKd S1 r (fVl S1 2 o) i))).app 2 dd cap).dI (S1.nn 8) 3 (((((S1.one 8 q).sdR (updN S1.dR (S1.nn 8) r)).sdI (pdG S1 i (pdAc S1 r (fVl S1 1 o) i) (pdKd S1 r (fVl S1 2 o) i))).app 2 dd cap).dI (S1.nn 8) 3 + 1))) _ _ (some (.ref q)) _ _ (by omega) (by omega) (by omega) hpN ?_ ha ?_ ?_ ?_ hl4 hr1 ⟨hla, hka⟩ hho ?_ ?_
          · exact hv2.trans (by rw [hla, hka]; rfl)
          · show some (Value.ref q) = some (Value.ref (ad2 S1.ad 8 (S1.nn 8) q 8 (updN S1.nn 8 (S1.nn 8 + 1) 8 - 1)))
            rw [updN_s, Nat.add_sub_cancel, ad2_s]
          · show updN S1.nn 8 (S1.nn 8 + 1) 8 = updN S1.ln 2 (S1.ln 2 + 1) 2
            rw [updN_s, updN_s, hn8]
          · show updN S1.ln 2 (S1.ln 2 + 1) 2 ≤ S.ln 2 + (i + 1) ∧ 1 ≤ updN S1.ln 2 (S1.ln 2 + 1) 2
            rw [updN_s]; omega
          · (try dsimp only [rm_X2_valueAt, rm_X5_kindOf, rm_X0_init, rm_Jx4a65c_add_9ea2d, rm_Jx4a65c_size_8abf5, rm_Jx4a65c_get_915e3]); omega
          · show _ + 4 * S.cp 2 ≤ 7 * (i + 1) + 4 * updN S1.cp 2 cap 2 + 20
            rw [updN_s]
            (try dsimp only [rm_X2_valueAt, rm_X5_kindOf, rm_X0_init, rm_Jx4a65c_add_9ea2d, rm_Jx4a65c_size_8abf5, rm_Jx4a65c_get_915e3]); omega

