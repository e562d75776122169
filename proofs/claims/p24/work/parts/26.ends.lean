/-! The first page of a run; the end of a run. -/
set_option maxRecDepth 100000 in
theorem pt_first {G : Gx} {X : Nat → Prop} {w0 : Wd} {S : KS} {r : Nat} {la ka : Int32} {o : Option Nat} (hn : S.ln (r + 4) ≤ 120) (h120 : S.ln 2 + S.ln (r + 4) ≤ 120) (C : Cx) (i : Nat) (w1 : Wd) (S1 : KS) (c k : Nat) (x5 x6 : Option Value) (hi : i < S.ln (r + 4)) (hi0 : i = 0) (hK1 : Kl G X w0 S1 w1) (hv : S1.v = (pdL r la ka i S).v) (ha : S1.ad 0 0 = S.ad 0 0) (hn8 : S1.nn 8 = S1.ln 2) (hl2 : S1.ln 2 ≤ S.ln 2 + i) (hl4 : S1.ln (r + 4) = S.ln (r + 4)) (hr1 : r < S1.nn 5) (hho2 : (fVl S1 1 o = la ∧ fVl S1 2 o = ka)) (hho : (∀ g, o = some g → g < S1.nn 2)) (hc : c ≤ 2 * i + 5) (hk : k + 4 * S.cp 2 ≤ 7 * i + 4 * S1.cp 2 + 20) :
    Go G rm_X5_putTogether cX5_putTogether RX5 (none, "putTogether", []) C (QP G rm_X5_putTogether (PN (KQ G X w0 S (pdL r la ka (S.ln (r + 4)) S))) C) 14 [some (.ref (S1.ad 0 0)), some (.ref (S1.ad 5 r)), some (.ref (fAd S1 o)), some .null, some (.int (nI i)), x5, x6] [] w1 c k := by
  have hr43 : r + 4 < S1.nn 3 := by have := hK1.u3; omega
  have hr23 : 2 < S1.nn 3 := by have := hK1.u3; omega
  have hcp2 := hK1.cl.cp 2 hr23
  have hgs : S1.ln 2 ≤ 120 → gslot (S1.ln 2) (S1.cp 2) ≤ 200 := fun z => gslot_le hcp2.1 hcp2.2 z
  have hgf := fAd_g hK1 hho
  obtain ⟨hla, hka⟩ := hho2
  have hlt : i < S1.ln (r + 4) := by omega
  have hp6 : S1.rF r + i < S1.nn 6 := hK1.cl.el (r + 4) i hr43 hlt
  have hp7 := Nat.lt_of_lt_of_le hp6 hK1.cl.c7
  have hgs := hgs (by omega)
  refine g_iload4 dX5_putTogether_14 ?_
  refine g_aload1 dX5_putTogether_16 ?_
  refine g_getf kc5 dX5_putTogether_17 fl_X5_103 (by decide) (hK1.g5 hr1) rfl ?_
  refine g_callV0 kc0 (hK1.ctSize (l := r + 4) hr43) md_Jx4a65c_size_8abf5 dX5_putTogether_20 ml_X5_85 im_Jx4a65c_size_8abf5 se_Jx4a65c_size_8abf5 (hK1.g3 (i := r + 4) hr43) (RmOk.of (Nat.le_of_ble_eq_true rfl) (Nat.le_of_ble_eq_true rfl) (Nat.le_of_ble_eq_true rfl) (by (try dsimp only [rm_X5_putTogether, rm_Jx4a65c_size_8abf5]); omega) (by (try dsimp only [rm_X5_putTogether, rm_Jx4a65c_size_8abf5]); omega)) (kr_V ?_) kx_V
  refine g_icmp_ge_f (tgt := 114) dX5_putTogether_23 (by decide) (nI_ge hlt (by omega)) ?_
  refine g_aload1 dX5_putTogether_26 ?_
  refine g_getf kc5 dX5_putTogether_27 fl_X5_103 (by decide) (hK1.g5 hr1) rfl ?_
  refine g_iload4 dX5_putTogether_30 ?_
  refine g_callV1 kc0 (hK1.ctGetP (l := r) hr43 hlt) md_Jx4a65c_get_915e3 dX5_putTogether_32 ml_X5_126 im_Jx4a65c_get_915e3 se_Jx4a65c_get_915e3 (hK1.g3 (i := r + 4) hr43) (RmOk.of (Nat.le_of_ble_eq_true rfl) (Nat.le_of_ble_eq_true rfl) (Nat.le_of_ble_eq_true rfl) (by (try dsimp only [rm_X5_putTogether, rm_Jx4a65c_size_8abf5, rm_Jx4a65c_get_915e3]); omega) (by (try dsimp only [rm_X5_putTogether, rm_Jx4a65c_size_8abf5, rm_Jx4a65c_get_915e3]); omega)) (kr_V ?_) kx_V
  refine g_cast kc3 dX5_putTogether_35 cl_X5_35 (hK1.g6 hp6) ?_
  refine g_astore5 dX5_putTogether_38 ?_
  refine g_aload5 dX5_putTogether_40 ?_
  refine g_aload2 dX5_putTogether_42 ?_
  refine g_getf kc2 dX5_putTogether_43 fl_X5_252 (by decide) hgf rfl ?_
  refine g_callVN1 kc3 (ct_valueAt (hK1.g6 hp6) (hK1.g7 hp7)) md_X2_valueAt dX5_putTogether_46 ml_X5_198 im_X2_valueAt se_X2_valueAt (hK1.g6 hp6) (RmOk.of (Nat.le_of_ble_eq_true rfl) (Nat.le_of_ble_eq_true rfl) (Nat.le_of_ble_eq_true rfl) (by (try dsimp only [rm_X5_putTogether, rm_Jx4a65c_size_8abf5, rm_Jx4a65c_get_915e3, rm_X2_valueAt]); omega) (by (try dsimp only [rm_X5_putTogether, rm_Jx4a65c_size_8abf5, rm_Jx4a65c_get_915e3, rm_X2_valueAt]); omega)) (kr_V ?_) kn_V
  rw [show (if hasB (nI (S1.pS (S1.rF r + i))) (fVl S1 1 o) = true then S1.pV (S1.rF r + i) (fVl S1 1 o).toNatClampNeg else -1) = pdAc S1 r (fVl S1 1 o) i from rfl]
  refine g_istore6 dX5_putTogether_49 ?_
  refine g_aload3N dX5_putTogether_51 ?_
  refine g_ifnullN (tgt := 70) dX5_putTogether_52 (by decide) ?_
  refine g_new (fs := [.null, .int 0, .int 0, .int 0, .int 0, .int 0]) kc1 dX5_putTogether_70 cl_X5_150 ins_X0 ini_X0 (by intro j hj; rcases (show j = 0 ∨ j = 1 ∨ j = 2 ∨ j = 3 ∨ j = 4 ∨ j = 5 by omega) with rfl | rfl | rfl | rfl | rfl | rfl <;> rfl) (by (try dsimp only [rm_X5_putTogether, rm_Jx4a65c_size_8abf5, rm_Jx4a65c_get_915e3, rm_X2_valueAt]); omega) (by (try dsimp only [rm_X5_putTogether, rm_Jx4a65c_size_8abf5, rm_Jx4a65c_get_915e3, rm_X2_valueAt]); omega) (fun q qn qb => ?_)
  have n6 := (up_n (e := eO 1 [.null, .int 0, .int 0, .int 0, .int 0, .int 0]) (ne_of_new (hK1.g6 hp6) qn)).trans (hK1.g6 hp6)
  have n7 := (up_n (e := eO 1 [.null, .int 0, .int 0, .int 0, .int 0, .int 0]) (ne_of_new (hK1.g7 hp7) qn)).trans (hK1.g7 hp7)
  have nf := (up_n (e := eO 1 [.null, .int 0, .int 0, .int 0, .int 0, .int 0]) (ne_of_new hgf qn)).trans hgf
  have n5 := (up_n (e := eO 1 [.null, .int 0, .int 0, .int 0, .int 0, .int 0]) (ne_of_new (hK1.g5 hr1) qn)).trans (hK1.g5 hr1)
  refine g_dup dX5_putTogether_73 rfl ?_
  refine g_aload1 dX5_putTogether_74 ?_
  refine g_iload4 dX5_putTogether_75 ?_
  refine g_iload6 dX5_putTogether_77 ?_
  refine g_aload5 dX5_putTogether_79 ?_
  refine g_aload2 dX5_putTogether_81 ?_
  refine g_callS2 (ct_kindOf n6 n7 nf) md_X5_kindOf dX5_putTogether_82 ml_X5_255 st_X5_kindOf (RmOk.of (Nat.le_of_ble_eq_true rfl) (Nat.le_of_ble_eq_true rfl) (Nat.le_of_ble_eq_true rfl) (by (try dsimp only [rm_X5_putTogether, rm_Jx4a65c_size_8abf5, rm_Jx4a65c_get_915e3, rm_X2_valueAt, rm_X5_kindOf]); omega) (by (try dsimp only [rm_X5_putTogether, rm_Jx4a65c_size_8abf5, rm_Jx4a65c_get_915e3, rm_X2_valueAt, rm_X5_kindOf]); omega)) (kr_V ?_) kx_V
  rw [show kdC (S1.pS (S1.rF r + i)) (S1.pV (S1.rF r + i)) (fVl S1 2 o) = pdKd S1 r (fVl S1 2 o) i from rfl]
  refine g_callIN4 (ct_X0_init n5 (up_s _ _ _) qb) md_X0_init dX5_putTogether_85 ml_X5_259 rfl im_X0_init (RmOk.of (Nat.le_of_ble_eq_true rfl) (Nat.le_of_ble_eq_true rfl) (Nat.le_of_ble_eq_true rfl) (by (try dsimp only [rm_X5_putTogether, rm_Jx4a65c_size_8abf5, rm_Jx4a65c_get_915e3, rm_X2_valueAt, rm_X5_kindOf, rm_X0_init]); omega) (by (try dsimp only [rm_X5_putTogether, rm_Jx4a65c_size_8abf5, rm_Jx4a65c_get_915e3, rm_X2_valueAt, rm_X5_kindOf, rm_X0_init]); omega)) (kr_N (fun w1 hw1 => ?_)) kn_N
  rw [up_up] at hw1
  subst hw1
  have hK2 := hK1.newD qn qb hr1 (nI i) (pdAc S1 r (fVl S1 1 o) i) (pdKd S1 r (fVl S1 2 o) i)
  have hva : q = elK (((S1.one 8 q).sdR (updN S1.dR (S1.nn 8) r)).sdI (pdG S1 i (pdAc S1 r (fVl S1 1 o) i) (pdKd S1 r (fVl S1 2 o) i))) 2 (S1.ln 2) := by
    show q = ad2 S1.ad 8 (S1.nn 8) q 8 (S1.ln 2)
    rw [hn8, ad2_s]
  have hr24 : 2 < (((S1.one 8 q).sdR (updN S1.dR (S1.nn 8) r)).sdI (pdG S1 i (pdAc S1 r (fVl S1 1 o) i) (pdKd S1 r (fVl S1 2 o) i))).nn 3 := hr23
  refine g_astore3 dX5_putTogether_88 ?_
  refine g_aload0 dX5_putTogether_89 ?_
  refine g_getf kc6 dX5_putTogether_90 fl_X5_42 (by decide) hK2.g0 rfl ?_
  refine g_aload3 dX5_putTogether_93 ?_
  refine g_callV1 kc0 (hK2.ctAddD (nl := gslot (S1.ln 2) (S1.cp 2)) hr24 (show S1.ln 2 ≤ 120 by omega) hva (by show S1.ln 2 < updN S1.nn 8 (S1.nn 8 + 1) 8; rw [updN_s]; omega) (Nat.le_refl _)) md_Jx4a65c_add_9ea2d dX5_putTogether_94 ml_X5_61 im_Jx4a65c_add_9ea2d se_Jx4a65c_add_9ea2d (hK2.g3 (i := 2) hr24) (RmOk.of (Nat.le_of_ble_eq_true rfl) (Nat.le_of_ble_eq_true rfl) (Nat.le_of_ble_eq_true rfl) (by (try dsimp only [rm_X5_putTogether, rm_Jx4a65c_size_8abf5, rm_Jx4a65c_get_915e3, rm_X2_valueAt, rm_X5_kindOf, rm_X0_init, rm_Jx4a65c_add_9ea2d]); omega) (by (try dsimp only [rm_X5_putTogether, rm_Jx4a65c_size_8abf5, rm_Jx4a65c_get_915e3, rm_X2_valueAt, rm_X5_kindOf, rm_X0_init, rm_Jx4a65c_add_9ea2d]); omega)) (kr_B (fun w1 hw1 => ?_)) kx_B
  obtain ⟨dd, cap, hK3, hcap⟩ := hw1
  have hK3 : Kl G X w0 ((((S1.one 8 q).sdR (updN S1.dR (S1.nn 8) r)).sdI (pdG S1 i (pdAc S1 r (fVl S1 1 o) i) (pdKd S1 r (fVl S1 2 o) i))).app 2 dd cap) w1 := hK3
  have hcap : gslot (S1.ln 2) (S1.cp 2) + 4 * S1.cp 2 ≤ 4 * cap := hcap
  have h88 : S1.nn 8 < ((((S1.one 8 q).sdR (updN S1.dR (S1.nn 8) r)).sdI (pdG S1 i (pdAc S1 r (fVl S1 1 o) i) (pdKd S1 r (fVl S1 2 o) i))).app 2 dd cap).nn 8 := by
    show S1.nn 8 < updN S1.nn 8 (S1.nn 8 + 1) 8
    rw [updN_s]; omega
  have hgN := hK3.g8 h88
  rw [show ((((S1.one 8 q).sdR (updN S1.dR (S1.nn 8) r)).sdI (pdG S1 i (pdAc S1 r (fVl S1 1 o) i) (pdKd S1 r (fVl S1 2 o) i))).app 2 dd cap).ad 8 (S1.nn 8) = q from ad2_s _ _ _ _] at hgN
  have hbN := hK3.b8 h88
  rw [show ((((S1.one 8 q).sdR (updN S1.dR (S1.nn 8) r)).sdI (pdG S1 i (pdAc S1 r (fVl S1 1 o) i) (pdKd S1 r (fVl S1 2 o) i))).app 2 dd cap).ad 8 (S1.nn 8) = q from ad2_s _ _ _ _] at hbN
  have hpN := hK3.pLen (i := S1.nn 8) h88 (((((S1.one 8 q).sdR (updN S1.dR (S1.nn 8) r)).sdI (pdG S1 i (pdAc S1 r (fVl S1 1 o) i) (pdKd S1 r (fVl S1 2 o) i))).app 2 dd cap).dI (S1.nn 8) 3 + 1)
  rw [show ((((S1.one 8 q).sdR (updN S1.dR (S1.nn 8) r)).sdI (pdG S1 i (pdAc S1 r (fVl S1 1 o) i) (pdKd S1 r (fVl S1 2 o) i))).app 2 dd cap).ad 8 (S1.nn 8) = q from ad2_s _ _ _ _] at hpN
  refine g_pop dX5_putTogether_97 rfl ?_
  refine g_aload3 dX5_putTogether_98 ?_
  refine g_dup dX5_putTogether_99 rfl ?_
  first
    | refine g_getf kc1 dX5_putTogether_100 fl_X5_161 (by decide) hgN rfl ?_
  refine g_iconst (v := 1) dX5_putTogether_103 (by decide) ?_
  refine g_iadd dX5_putTogether_104 ?_
  first
    | refine g_putf (fs' := [.ref (((((S1.one 8 q).sdR (updN S1.dR (S1.nn 8) r)).sdI (pdG S1 i (pdAc S1 r (fVl S1 1 o) i) (pdKd S1 r (fVl S1 2 o) i))).app 2 dd cap).ad 5 (((((S1.one 8 q).sdR (updN S1.dR (S1.nn 8) r)).sdI (pdG S1 i (pdAc S1 r (fVl S1 1 o) i) (pdKd S1 r (fVl S1 2 o) i))).app 2 dd cap).dR (S1.nn 8))), .int (((((S1.one 8 q).sdR (updN S1.dR (S1.nn 8) r)).sdI (pdG S1 i (pdAc S1 r (fVl S1 1 o) i) (pdKd S1 r (fVl S1 2 o) i))).app 2 dd cap).dI (S1.nn 8) 0), .int (((((S1.one 8 q).sdR (updN S1.dR (S1.nn 8) r)).sdI (pdG S1 i (pdAc S1 r (fVl S1 1 o) i) (pdKd S1 r (fVl S1 2 o) i))).app 2 dd cap).dI (S1.nn 8) 1), .int (((((S1.one 8 q).sdR (updN S1.dR (S1.nn 8) r)).sdI (pdG S1 i (pdAc S1 r (fVl S1 1 o) i) (pdKd S1 r (fVl S1 2 o) i))).app 2 dd cap).dI (S1.nn 8) 2), .int (((((S1.one 8 q).sdR (updN S1.dR (S1.nn 8) r)).sdI (pdG S1 i (pdAc S1 r (fVl S1 1 o) i) (pdKd S1 r (fVl S1 2 o) i))).app 2 dd cap).dI (S1.nn 8) 3 + 1), .int (((((S1.one 8 q).sdR (updN S1.dR (S1.nn 8) r)).sdI (pdG S1 i (pdAc S1 r (fVl S1 1 o) i) (pdKd S1 r (fVl S1 2 o) i))).app 2 dd cap).dI (S1.nn 8) 4)]) kc1 dX5_putTogether_105 fl_X5_161 (by decide) rfl hgN hbN rfl rfl (Nat.le_of_ble_eq_true rfl) rfl ?_
  refine g_iinc4 (v' := (nI (i + 1))) dX5_putTogether_108 (nI_1 i) ?_
  refine g_goto (tgt := 14) dX5_putTogether_111 (by decide) ?_
  have hC : pdCd S1 r (fVl S1 1 o) i = true := by unfold pdCd; rw [decide_eq_true hi0] <;> rfl
  have hvv : (((((S1.one 8 q).sdR (updN S1.dR (S1.nn 8) r)).sdI (pdG S1 i (pdAc S1 r (fVl S1 1 o) i) (pdKd S1 r (fVl S1 2 o) i))).app 2 dd cap).sdI (upd2 ((((S1.one 8 q).sdR (updN S1.dR (S1.nn 8) r)).sdI (pdG S1 i (pdAc S1 r (fVl S1 1 o) i) (pdKd S1 r (fVl S1 2 o) i))).app 2 dd cap).dI (S1.nn 8) 3 (((((S1.one 8 q).sdR (updN S1.dR (S1.nn 8) r)).sdI (pdG S1 i (pdAc S1 r (fVl S1 1 o) i) (pdKd S1 r (fVl S1 2 o) i))).app 2 dd cap).dI (S1.nn 8) 3 + 1))).v = (pdStep r (fVl S1 1 o) (fVl S1 2 o) i S1).v := by
    unfold pdStep
    rw [if_pos hC]
    rfl
  have hv2 := hvv.trans (pdStep_v hv r (fVl S1 1 o) (fVl S1 2 o) i)
  refine lp_pt hn h120 C (S.ln (r + 4) + 1) (i + 1) _ (((((S1.one 8 q).sdR (updN S1.dR (S1.nn 8) r)).sdI (pdG S1 i (pdAc S1 r (fVl S1 1 o) i) (pdKd S1 r (fVl S1 2 o) i))).app 2 dd cap).sdI (upd2 ((((S1.one 8 q).sdR (updN S1.dR (S1.nn 8) r)).sdI (pdG S1 i (pdAc S1 r (fVl S1 1 o) i) (pdKd S1 r (fVl S1 2 o) i))).app 2 dd cap).dI (S1.nn 8) 3 (((((S1.one 8 q).sdR (updN S1.dR (S1.nn 8) r)).sdI (pdG S1 i (pdAc S1 r (fVl S1 1 o) i) (pdKd S1 r (fVl S1 2 o) i))).app 2 dd cap).dI (S1.nn 8) 3 + 1))) _ _ (some (.ref q)) _ _ (by omega) (by omega) (by omega) hpN ?_ ha ?_ ?_ ?_ hl4 hr1 ⟨hla, hka⟩ hho ?_ ?_
  · exact hv2.trans (by rw [hla, hka]; rfl)
  · show some (Value.ref q) = some (Value.ref (ad2 S1.ad 8 (S1.nn 8) q 8 (updN S1.nn 8 (S1.nn 8 + 1) 8 - 1)))
    rw [updN_s, Nat.add_sub_cancel, ad2_s]
  · show updN S1.nn 8 (S1.nn 8 + 1) 8 = updN S1.ln 2 (S1.ln 2 + 1) 2
    rw [updN_s, updN_s, hn8]
  · show updN S1.ln 2 (S1.ln 2 + 1) 2 ≤ S.ln 2 + (i + 1) ∧ 1 ≤ updN S1.ln 2 (S1.ln 2 + 1) 2
    rw [updN_s]; omega
  · (try dsimp only [rm_X2_valueAt, rm_X5_kindOf, rm_X0_init, rm_Jx4a65c_add_9ea2d, rm_Jx4a65c_size_8abf5, rm_Jx4a65c_get_915e3]); omega
  · show _ + 4 * S.cp 2 ≤ 7 * (i + 1) + 4 * updN S1.cp 2 cap 2 + 20
    rw [updN_s]
    (try dsimp only [rm_X2_valueAt, rm_X5_kindOf, rm_X0_init, rm_Jx4a65c_add_9ea2d, rm_Jx4a65c_size_8abf5, rm_Jx4a65c_get_915e3]); omega

theorem pdL_v {S T : KS} (h : S.v = T.v) (r : Nat) (la ka : Int32) : ∀ n, (pdL r la ka n S).v = (pdL r la ka n T).v
  | 0 => h
  | n + 1 => pdStep_v (pdL_v h r la ka n) r la ka n
def oN (S : KS) (dy : Int32) : Option Nat := fOn S dy (S.ln 0)

set_option maxRecDepth 100000 in
theorem kt_putTogether {G : Gx} {X : Nat → Prop} {w0 w : Wd} {S : KS} (hK : Kl G X w0 S w) {r : Nat} (hr : r < S.nn 5) (hn : S.ln (r + 4) ≤ 120) (hn0 : 0 < S.ln (r + 4)) (h120 : S.ln 2 + S.ln (r + 4) ≤ 120) (hn8 : S.nn 8 = S.ln 2) (hn2 : S.ln 0 ≤ S.nn 2) (hp : ∀ i, i < S.ln 0 → 0 ≤ S.fm i 0) : Ct G yX5_putTogether kw_X5_putTogether rm_X5_putTogether [.ref (S.ad 0 0), .ref (S.ad 5 r)] w (PN (KQ G X w0 S (pdL r (fVl S 1 (oN S (S.rD r))) (fVl S 2 (oN S (S.rD r))) (S.ln (r + 4)) S))) := by
  refine ct_intro RX5 "putTogether" (by decide +kernel) rfl rfl rfl (Nat.le_of_ble_eq_true rfl) [some (.ref (S.ad 0 0)), some (.ref (S.ad 5 r)), none, none, none, none, none] rfl (fun C => ?_)
  refine g_aload0 dX5_putTogether_0 ?_
  refine g_aload1 dX5_putTogether_1 ?_
  refine g_getf kc5 dX5_putTogether_2 fl_X5_243 (by decide) (hK.g5 hr) rfl ?_
  refine g_callV1 kc6 (ct_formatOn hK hn2 hp) md_X5_formatOn dX5_putTogether_5 ml_X5_248 im_X5_formatOn se_X5_formatOn hK.g0 (RmOk.of (Nat.le_of_ble_eq_true rfl) (Nat.le_of_ble_eq_true rfl) (Nat.le_of_ble_eq_true rfl) (Nat.le_of_ble_eq_true rfl) (Nat.le_of_ble_eq_true rfl)) (kr_V ?_) kx_V
  refine g_astore2 dX5_putTogether_8 ?_
  refine g_anull dX5_putTogether_9 ?_
  refine g_astore3N dX5_putTogether_10 ?_
  refine g_iconst (v := 0) dX5_putTogether_11 (by decide) ?_
  refine g_istore4 dX5_putTogether_12 ?_
  exact pt_first hn h120 C 0 w S _ _ none none hn0 rfl hK rfl rfl hn8 (Nat.le_refl _) rfl hr ⟨rfl, rfl⟩ (fun g hg => Nat.lt_of_lt_of_le (fmS_lt hg) hn2) (by dsimp only [rm_X5_formatOn]; omega) (by dsimp only [rm_X5_formatOn]; omega)

def KO (S : KS) : Prop := S.oR = S.ln 1 ∧ S.nn 3 = S.nn 5 + 4 ∧ S.ln 1 ≤ 120 ∧ S.ln (S.oR + 4) ≤ 120 ∧ 0 < S.ln (S.oR + 4) ∧ S.ln 2 + S.ln (S.oR + 4) ≤ 120 ∧ S.nn 8 = S.ln 2 ∧ S.ln 0 ≤ S.nn 2 ∧ ∀ i, i < S.ln 0 → 0 ≤ S.fm i 0
theorem KO_v {S T : KS} (h : S.v = T.v) (hT : KO T) : KO S := by
  have h1 : KO T.v := hT
  rw [← h] at h1
  exact h1
def keA (S : KS) : KS := ((S.srD (upd S.rD S.oR S.day)).sln (updN S.ln 1 (S.ln 1 + 1))).skept (S.kept + nI (S.ln (S.oR + 4)))
def krT (S : KS) (f : Nat) : KS := ((((S.snn (updN (updN (updN S.nn 3 (S.nn 3 + 1)) 4 (S.nn 3 + 1)) 5 (S.nn 5 + 1))).sln (updN S.ln (S.nn 3) 0)).srF (updN S.rF (S.nn 5) f)).srD (upd S.rD (S.nn 5) 0)).soR (S.nn 5)
def keB (S : KS) : KS := pdL S.oR (fVl S 1 (oN S S.day)) (fVl S 2 (oN S S.day)) (S.ln (S.oR + 4)) (keA S)
def keT (S : KS) : KS := krT (keB S) S.oP
theorem krT_v {S T : KS} (h : S.v = T.v) (f : Nat) : (krT S f).v = (krT T f).v := by
  rw [show (krT S f).v = (krT S.v f).v from rfl, h]; rfl
theorem fVl_v {S T : KS} (h : S.fm = T.fm) (k : Nat) (o : Option Nat) : fVl S k o = fVl T k o := by
  cases o with
  | none => rfl
  | some g => show S.fm g k = T.fm g k; rw [h]
theorem oN_v {S T : KS} (h : S.fm = T.fm) (hl : S.ln 0 = T.ln 0) (dy : Int32) : oN S dy = oN T dy := by
  unfold oN fOn; rw [h, hl]
theorem keT_v {S T : KS} (h : S.v = T.v) : (keT S).v = (keT T).v := by
  have e1 : S.oP = T.oP := (congrArg KS.oP h : S.v.oP = T.v.oP)
  have e2 : S.oR = T.oR := (congrArg KS.oR h : S.v.oR = T.v.oR)
  have e3 : S.fm = T.fm := (congrArg KS.fm h : S.v.fm = T.v.fm)
  have e4 : S.ln = T.ln := (congrArg KS.ln h : S.v.ln = T.v.ln)
  have e5 : S.day = T.day := (congrArg KS.day h : S.v.day = T.v.day)
  have eA : (keA S).v = (keA T).v := by
    rw [show (keA S).v = (keA S.v).v from rfl, h]; rfl
  unfold keT keB
  rw [e1, e2, e4, e5, fVl_v e3, fVl_v e3, oN_v e3 (by rw [e4])]
  exact krT_v (pdL_v eA _ _ _ _) _

abbrev rm_X5_keepOpenRun : Room := { frames := 8, cells := 280, slots := 2400, locals := 217 }

theorem pdStep_nn (r : Nat) (la ka : Int32) (i : Nat) (S : KS) {k : Nat} (hk : k ≠ 8) : (pdStep r la ka i S).nn k = S.nn k := by
  unfold pdStep
  by_cases h : pdCd S r la i = true
  · rw [if_pos h]
    show updN S.nn 8 (S.nn 8 + 1) k = S.nn k
    exact updN_n hk
  · rw [if_neg h]; rfl
theorem pdL_nn (r : Nat) (la ka : Int32) (S : KS) {k : Nat} (hk : k ≠ 8) : ∀ n, (pdL r la ka n S).nn k = S.nn k
  | 0 => rfl
  | n + 1 => (pdStep_nn r la ka n _ hk).trans (pdL_nn r la ka S hk n)
theorem keB_nn (S : KS) {k : Nat} (hk : k ≠ 8) : (keB S).nn k = S.nn k := pdL_nn _ _ _ (keA S) hk _
theorem pdStep_ln (r : Nat) (la ka : Int32) (i : Nat) (S : KS) {k : Nat} (hk : k ≠ 2) : (pdStep r la ka i S).ln k = S.ln k := by
  unfold pdStep
  by_cases h : pdCd S r la i = true
  · rw [if_pos h]
    show updN S.ln 2 (S.ln 2 + 1) k = S.ln k
    exact updN_n hk
  · rw [if_neg h]; rfl
theorem pdL_ln (r : Nat) (la ka : Int32) (S : KS) {k : Nat} (hk : k ≠ 2) : ∀ n, (pdL r la ka n S).ln k = S.ln k
  | 0 => rfl
  | n + 1 => (pdStep_ln r la ka n _ hk).trans (pdL_ln r la ka S hk n)
set_option maxRecDepth 100000 in
theorem kt_keepOpenRun {G : Gx} {X : Nat → Prop} {w0 w : Wd} {S : KS} (hK : Kl G X w0 S w) (hO : KO S) : Ct G yX5_keepOpenRun kw_X5_keepOpenRun rm_X5_keepOpenRun [.ref (S.ad 0 0)] w (PN (KQ G X w0 S (keT S))) := by
  obtain ⟨hoR, h3, hm1, h4, h5, h6, h7, h8, h9⟩ := hO
  have hr := hK.cl.oR
  have hr3 : S.oR + 4 < S.nn 3 := by omega
  refine ct_intro RX5 "keepOpenRun" (by decide +kernel) rfl rfl rfl (Nat.le_of_ble_eq_true rfl) [some (.ref (S.ad 0 0))] rfl (fun C => ?_)
  refine g_aload0 dX5_keepOpenRun_0 ?_
  refine g_getf kc6 dX5_keepOpenRun_1 fl_X5_31 (by decide) hK.g0 rfl ?_
  refine g_aload0 dX5_keepOpenRun_4 ?_
  refine g_getf kc6 dX5_keepOpenRun_5 fl_X5_74 (by decide) hK.g0 rfl ?_
  refine g_putf (fs' := [.ref (S.ad 3 (S.oR + 4)), .int S.day]) kc5 dX5_keepOpenRun_8 fl_X5_243 (by decide) rfl (hK.g5 hr) (hK.b5 hr) rfl rfl (Nat.le_of_ble_eq_true rfl) rfl ?_
  have hK1 := hK.pRD hr S.day
  have hr13 : 1 < (S.srD (upd S.rD S.oR S.day)).nn 3 := by show 1 < S.nn 3; omega
  refine g_aload0 dX5_keepOpenRun_11 ?_
  refine g_getf kc6 dX5_keepOpenRun_12 fl_X5_25 (by decide) hK1.g0 rfl ?_
  refine g_aload0 dX5_keepOpenRun_15 ?_
  refine g_getf kc6 dX5_keepOpenRun_16 fl_X5_31 (by decide) hK1.g0 rfl ?_
  refine g_callV1 kc0 (hK1.ctAddR (nl := 200) hr13 hm1 (by show S.ad 5 S.oR = S.ad 5 (S.ln 1); rw [hoR]) (by show S.ln 1 < S.nn 5; rw [← hoR]; exact hr) (hK1.gsl hr13 hm1)) md_Jx4a65c_add_9ea2d dX5_keepOpenRun_19 ml_X5_61 im_Jx4a65c_add_9ea2d se_Jx4a65c_add_9ea2d (hK1.g3 (i := 1) hr13) (RmOk.of (Nat.le_of_ble_eq_true rfl) (Nat.le_of_ble_eq_true rfl) (Nat.le_of_ble_eq_true rfl) (Nat.le_of_ble_eq_true rfl) (Nat.le_of_ble_eq_true rfl)) (kr_B (fun w1 hw1 => ?_)) kx_B
  obtain ⟨dd, cap, hK2, -⟩ := hw1
  have hK2 : Kl G X w0 ((S.srD (upd S.rD S.oR S.day)).app 1 dd cap) w1 := hK2
  have hK3 := hK2.pKept (S.kept + nI (S.ln (S.oR + 4)))
  have eln : updN S.ln 1 (S.ln 1 + 1) (S.oR + 4) = S.ln (S.oR + 4) := updN_n (by omega)
  have eln2 : updN S.ln 1 (S.ln 1 + 1) 2 = S.ln 2 := updN_n (by decide)
  have eln0 : updN S.ln 1 (S.ln 1 + 1) 0 = S.ln 0 := updN_n (by decide)
  have hsz := hK2.ctSize (l := S.oR + 4) hr3
  rw [show ((S.srD (upd S.rD S.oR S.day)).app 1 dd cap).ln (S.oR + 4) = S.ln (S.oR + 4) from eln] at hsz
  have hpt := kt_putTogether hK3 (r := S.oR) hr (by show updN S.ln 1 (S.ln 1 + 1) (S.oR + 4) ≤ 120; rw [eln]; exact h4) (by show 0 < updN S.ln 1 (S.ln 1 + 1) (S.oR + 4); rw [eln]; exact h5) (by show updN S.ln 1 (S.ln 1 + 1) 2 + updN S.ln 1 (S.ln 1 + 1) (S.oR + 4) ≤ 120; rw [eln, eln2]; exact h6) (by show S.nn 8 = updN S.ln 1 (S.ln 1 + 1) 2; rw [eln2]; exact h7) (by show updN S.ln 1 (S.ln 1 + 1) 0 ≤ S.nn 2; rw [eln0]; exact h8) (by intro i hi; have hi : i < updN S.ln 1 (S.ln 1 + 1) 0 := hi; rw [eln0] at hi; exact h9 i hi)
  have edy : (((S.srD (upd S.rD S.oR S.day)).app 1 dd cap).skept (S.kept + nI (S.ln (S.oR + 4)))).rD S.oR = S.day := upd_s _ _ _
  rw [edy, show oN (((S.srD (upd S.rD S.oR S.day)).app 1 dd cap).skept (S.kept + nI (S.ln (S.oR + 4)))) S.day = oN S S.day from oN_v rfl eln0 _, show ∀ k o, fVl (((S.srD (upd S.rD S.oR S.day)).app 1 dd cap).skept (S.kept + nI (S.ln (S.oR + 4)))) k o = fVl S k o from fun k o => fVl_v rfl k o, show ∀ k o, fVl (((S.srD (upd S.rD S.oR S.day)).app 1 dd cap).skept (S.kept + nI (S.ln (S.oR + 4)))) k o = fVl S k o from fun k o => fVl_v rfl k o, show (((S.srD (upd S.rD S.oR S.day)).app 1 dd cap).skept (S.kept + nI (S.ln (S.oR + 4)))).ln (S.oR + 4) = S.ln (S.oR + 4) from eln] at hpt
  refine g_pop dX5_keepOpenRun_22 rfl ?_
  refine g_aload0 dX5_keepOpenRun_23 ?_
  refine g_dup dX5_keepOpenRun_24 rfl ?_
  refine g_getf kc6 dX5_keepOpenRun_25 fl_X5_100 (by decide) hK2.g0 rfl ?_
  refine g_aload0 dX5_keepOpenRun_28 ?_
  refine g_getf kc6 dX5_keepOpenRun_29 fl_X5_31 (by decide) hK2.g0 rfl ?_
  refine g_getf kc5 dX5_keepOpenRun_32 fl_X5_103 (by decide) (hK2.g5 (i := S.oR) hr) rfl ?_
  refine g_callV0 kc0 hsz md_Jx4a65c_size_8abf5 dX5_keepOpenRun_35 ml_X5_85 im_Jx4a65c_size_8abf5 se_Jx4a65c_size_8abf5 (hK2.g3 (i := S.oR + 4) hr3) (RmOk.of (Nat.le_of_ble_eq_true rfl) (Nat.le_of_ble_eq_true rfl) (Nat.le_of_ble_eq_true rfl) (Nat.le_of_ble_eq_true rfl) (Nat.le_of_ble_eq_true rfl)) (kr_V ?_) kx_V
  refine g_iadd dX5_keepOpenRun_38 ?_
  refine g_putf (fs' := (kp (((S.srD (upd S.rD S.oR S.day)).app 1 dd cap).skept (S.kept + nI (S.ln (S.oR + 4)))))) kc6 dX5_keepOpenRun_39 fl_X5_100 (by decide) rfl hK2.g0 hK2.b0 rfl rfl (Nat.le_of_ble_eq_true rfl) rfl ?_
  refine g_aload0 dX5_keepOpenRun_42 ?_
  refine g_aload0 dX5_keepOpenRun_43 ?_
  refine g_getf kc6 dX5_keepOpenRun_44 fl_X5_31 (by decide) hK3.g0 rfl ?_
  refine g_callV1 kc6 hpt md_X5_putTogether dX5_keepOpenRun_47 ml_X5_244 im_X5_putTogether se_X5_putTogether hK3.g0 (RmOk.of (Nat.le_of_ble_eq_true rfl) (Nat.le_of_ble_eq_true rfl) (Nat.le_of_ble_eq_true rfl) (Nat.le_of_ble_eq_true rfl) (Nat.le_of_ble_eq_true rfl)) (kr_N (fun w1 hw1 => ?_)) kx_N
  obtain ⟨S4, hK4, hv4, ha4⟩ := hw1
  have hv4 : S4.v = (keB S).v := hv4.trans (pdL_v (S := (((S.srD (upd S.rD S.oR S.day)).app 1 dd cap).skept (S.kept + nI (S.ln (S.oR + 4))))) (T := keA S) rfl _ _ _ _)
  have ha4 : S4.ad 0 0 = S.ad 0 0 := ha4
  have h43 : S4.nn 3 = S4.nn 5 + 4 := by
    have e : S4.nn = (keB S).nn := (congrArg KS.nn hv4 : S4.v.nn = (keB S).v.nn)
    rw [e, keB_nn _ (by decide), keB_nn _ (by decide)]; exact h3
  refine g_aload0 dX5_keepOpenRun_50 ?_
  refine g_new (fs := [.null, .int 0]) kc5 dX5_keepOpenRun_51 cl_X5_28 ins_X4 ini_X4 (by intro j hj; rcases (show j = 0 ∨ j = 1 by omega) with rfl | rfl <;> rfl) (Nat.le_of_ble_eq_true rfl) (Nat.le_of_ble_eq_true rfl) (fun q qn qb => ?_)
  refine g_dup dX5_keepOpenRun_54 rfl ?_
  refine g_callIN0 (ct_X4_init (up_s _ _ _) qb) md_X4_init dX5_keepOpenRun_55 ml_X5_30 rfl im_X4_init (RmOk.of (Nat.le_of_ble_eq_true rfl) (Nat.le_of_ble_eq_true rfl) (Nat.le_of_ble_eq_true rfl) (Nat.le_of_ble_eq_true rfl) (Nat.le_of_ble_eq_true rfl)) (kr_N (fun w1 hw1 => ?_)) kn_N
  obtain ⟨v, hv, hvb, hw1⟩ := hw1
  have hqv : q ≠ v := fun e => by rw [← e, up_s] at hv; cases hv
  rw [up_fix hqv] at hw1
  subst hw1
  rw [up_n (fun e => hqv e.symm)] at hv
  have hK5 := hK4.newRun qn qb hv hvb hqv h43 S.oP
  have h5q : (S4.rn q v S.oP).ad 5 (S4.nn 5) = q := by
    show ad2 (ad2 S4.ad 3 (S4.nn 3) v) 5 (updN (updN S4.nn 3 (S4.nn 3 + 1)) 4 (S4.nn 3 + 1) 5) q 5 (S4.nn 5) = q
    exact ad2_s _ _ _ _
  have hlt : S4.nn 5 < (S4.rn q v S.oP).nn 5 := by
    show S4.nn 5 < updN (updN (updN S4.nn 3 (S4.nn 3 + 1)) 4 (S4.nn 3 + 1)) 5 (updN (updN S4.nn 3 (S4.nn 3 + 1)) 4 (S4.nn 3 + 1) 5 + 1) 5
    rw [updN_s]
    exact Nat.lt_succ_self _
  have hK6 := hK5.pOR (r := S4.nn 5) hlt
  have hg := hK5.g0
  have hb0 := hK5.b0
  rw [show (S4.rn q v S.oP).ad 0 0 = S.ad 0 0 from ha4] at hg hb0 hK6
  refine g_putf (fs' := (kp ((S4.rn q v S.oP).soR (S4.nn 5)))) kc6 dX5_keepOpenRun_58 fl_X5_31 (by decide) rfl hg hb0 rfl rfl (Nat.le_of_ble_eq_true rfl) (kp_oR h5q) ?_
  refine g_vret dX5_keepOpenRun_61 ?_ (Nat.le_of_ble_eq_true rfl) (Nat.le_of_ble_eq_true rfl)
  exact ⟨rfl, _, hK6, (krT_v hv4 S.oP : (krT S4 S.oP).v = _), ha4⟩

