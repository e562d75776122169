/-! The keeper's methods with loops. -/
def pgC (S : KS) (p q : Nat) : Bool := decide (nI (S.pS p) = nI (S.pS q)) && allB (fun k => decide (S.pV p k = S.pV q k)) (S.pS p)
def rnC (S : KS) (a b : Nat) : Bool := (decide (S.rD a = S.rD b) && decide (nI (S.ln (a + 4)) = nI (S.ln (b + 4)))) && allB (fun i => pgC S (S.rF a + i) (S.rF b + i)) (S.ln (a + 4))

theorem Kl.ctGetF {G : Gx} {X : Nat → Prop} {w0 w : Wd} {S : KS} (hK : Kl G X w0 S w)  {j : Nat} (hl : 0 < S.nn 3) (hj : j < S.ln (0)) : Ct G yJx4a65c_get_915e3 kw_Jx4a65c_get_915e3 rm_Jx4a65c_get_915e3 [.ref (S.ad 3 (0)), .int (nI j)] w (PV (.ref (S.ad 2 j)) w) := hK.ctGet hl hj
theorem Kl.ctGetR {G : Gx} {X : Nat → Prop} {w0 w : Wd} {S : KS} (hK : Kl G X w0 S w)  {j : Nat} (hl : 1 < S.nn 3) (hj : j < S.ln (1)) : Ct G yJx4a65c_get_915e3 kw_Jx4a65c_get_915e3 rm_Jx4a65c_get_915e3 [.ref (S.ad 3 (1)), .int (nI j)] w (PV (.ref (S.ad 5 j)) w) := hK.ctGet hl hj
theorem Kl.ctGetD {G : Gx} {X : Nat → Prop} {w0 w : Wd} {S : KS} (hK : Kl G X w0 S w)  {j : Nat} (hl : 2 < S.nn 3) (hj : j < S.ln (2)) : Ct G yJx4a65c_get_915e3 kw_Jx4a65c_get_915e3 rm_Jx4a65c_get_915e3 [.ref (S.ad 3 (2)), .int (nI j)] w (PV (.ref (S.ad 8 j)) w) := hK.ctGet hl hj
theorem Kl.ctGetQ {G : Gx} {X : Nat → Prop} {w0 w : Wd} {S : KS} (hK : Kl G X w0 S w)  {j : Nat} (hl : 3 < S.nn 3) (hj : j < S.ln (3)) : Ct G yJx4a65c_get_915e3 kw_Jx4a65c_get_915e3 rm_Jx4a65c_get_915e3 [.ref (S.ad 3 (3)), .int (nI j)] w (PV (.ref (S.ad 9 j)) w) := hK.ctGet hl hj
theorem Kl.ctGetP {G : Gx} {X : Nat → Prop} {w0 w : Wd} {S : KS} (hK : Kl G X w0 S w) {l : Nat} {j : Nat} (hl : l + 4 < S.nn 3) (hj : j < S.ln (l + 4)) : Ct G yJx4a65c_get_915e3 kw_Jx4a65c_get_915e3 rm_Jx4a65c_get_915e3 [.ref (S.ad 3 (l + 4)), .int (nI j)] w (PV (.ref (S.ad 6 (S.rF l + j))) w) := hK.ctGet hl hj
abbrev rm_X4_isLike : Room := { frames := 3, cells := 0, slots := 0, locals := 64 }

set_option maxRecDepth 100000 in
theorem lp_isLike {G : Gx} {X : Nat → Prop} {w0 w : Wd} {S : KS} (hK : Kl G X w0 S w) {a b : Nat} (ha : a < S.nn 5) (hb : b < S.nn 5) (h8 : ∀ p, p < S.nn 6 → S.pS p ≤ 8) (he : S.ln (a + 4) = S.ln (b + 4)) (C : Cx) : ∀ (M : Nat) (i : Nat), S.ln (a + 4) - i < M → i ≤ S.ln (a + 4) → (∀ k, k < i → pgC S (S.rF a + k) (S.rF b + k) = true) →
    Go G rm_X4_isLike cX4_isLike RX4 ((some .boolean), "isLike", []) C (QP G rm_X4_isLike (PV (.int (bI (allB (fun i => pgC S (S.rF a + i) (S.rF b + i)) (S.ln (a + 4))))) w) C) 32 [some (.ref (S.ad 5 a)), some (.ref (S.ad 5 b)), some (.int (nI i))] [] w 0 0 := by
  intro M
  induction M with
  | zero => intro i hM9; exact absurd hM9 (Nat.not_lt_zero _)
  | succ M ih =>
    intro i hM9 hi hall
    have ha3 : a + 4 < S.nn 3 := by have := hK.u3; omega
    have hb3 : b + 4 < S.nn 3 := by have := hK.u3; omega
    have hla : S.ln (a + 4) ≤ 200 := by have := hK.cl.cp _ ha3; omega
    have hlb : S.ln (b + 4) ≤ 200 := by have := hK.cl.cp _ hb3; omega
    refine g_iload2 dX4_isLike_32 ?_
    refine g_aload0 dX4_isLike_33 ?_
    refine g_getf kc5 dX4_isLike_34 fl_X4_10 (by decide) (hK.g5 ha) rfl ?_
    refine g_callV0 kc0 (hK.ctSize ha3) md_Jx4a65c_size_8abf5 dX4_isLike_37 ml_X4_20 im_Jx4a65c_size_8abf5 se_Jx4a65c_size_8abf5 (hK.g3 ha3) (RmOk.of (Nat.le_of_ble_eq_true rfl) (Nat.le_of_ble_eq_true rfl) (Nat.le_of_ble_eq_true rfl) (Nat.le_of_ble_eq_true rfl) (Nat.le_of_ble_eq_true rfl)) (kr_V ?_) kx_V
    refine g_icmp_ge (tgt := 90) dX4_isLike_40 (by decide) (fun h40 => ?_) (fun h40 => ?_)
    · skip
      refine g_iconst (v := 1) dX4_isLike_90 (by decide) ?_
      refine g_zret dX4_isLike_91 (by decide) ?_ (Nat.le_of_ble_eq_true rfl) (Nat.le_of_ble_eq_true rfl)
      exact ⟨by rw [allB_yes (f := fun i => pgC S (S.rF a + i) (S.rF b + i)) (fun k hk => hall k (by have := idx_ge (i := i) (n := S.ln (a + 4)) (by omega) (by omega) h40; omega))]; rfl, rfl⟩
    · skip
      have hlt : i < S.ln (a + 4) := idx_lt (by omega) (by omega) h40
      have hlt2 : i < S.ln (b + 4) := by omega
      have hpa := hK.cl.el (a + 4) i ha3 hlt
      have hpb := hK.cl.el (b + 4) i hb3 hlt2
      have hpa7 := Nat.lt_of_lt_of_le hpa hK.cl.c7
      have hpb7 := Nat.lt_of_lt_of_le hpb hK.cl.c7
      refine g_iload2 dX4_isLike_43 ?_
      refine g_aload1 dX4_isLike_44 ?_
      refine g_getf kc5 dX4_isLike_45 fl_X4_10 (by decide) (hK.g5 hb) rfl ?_
      refine g_callV0 kc0 (hK.ctSize hb3) md_Jx4a65c_size_8abf5 dX4_isLike_48 ml_X4_20 im_Jx4a65c_size_8abf5 se_Jx4a65c_size_8abf5 (hK.g3 hb3) (RmOk.of (Nat.le_of_ble_eq_true rfl) (Nat.le_of_ble_eq_true rfl) (Nat.le_of_ble_eq_true rfl) (Nat.le_of_ble_eq_true rfl) (Nat.le_of_ble_eq_true rfl)) (kr_V ?_) kx_V
      refine g_icmp_ge_f (tgt := 90) dX4_isLike_51 (by decide) (nI_ge hlt2 (by omega)) ?_
      refine g_aload0 dX4_isLike_54 ?_
      refine g_getf kc5 dX4_isLike_55 fl_X4_10 (by decide) (hK.g5 ha) rfl ?_
      refine g_iload2 dX4_isLike_58 ?_
      refine g_callV1 kc0 (hK.ctGetP (l := a) ha3 hlt) md_Jx4a65c_get_915e3 dX4_isLike_59 ml_X4_24 im_Jx4a65c_get_915e3 se_Jx4a65c_get_915e3 (hK.g3 ha3) (RmOk.of (Nat.le_of_ble_eq_true rfl) (Nat.le_of_ble_eq_true rfl) (Nat.le_of_ble_eq_true rfl) (Nat.le_of_ble_eq_true rfl) (Nat.le_of_ble_eq_true rfl)) (kr_V ?_) kx_V
      refine g_cast kc3 dX4_isLike_62 cl_X4_28 (hK.g6 hpa) ?_
      refine g_aload1 dX4_isLike_65 ?_
      refine g_getf kc5 dX4_isLike_66 fl_X4_10 (by decide) (hK.g5 hb) rfl ?_
      refine g_iload2 dX4_isLike_69 ?_
      refine g_callV1 kc0 (hK.ctGetP (l := b) hb3 hlt2) md_Jx4a65c_get_915e3 dX4_isLike_70 ml_X4_24 im_Jx4a65c_get_915e3 se_Jx4a65c_get_915e3 (hK.g3 hb3) (RmOk.of (Nat.le_of_ble_eq_true rfl) (Nat.le_of_ble_eq_true rfl) (Nat.le_of_ble_eq_true rfl) (Nat.le_of_ble_eq_true rfl) (Nat.le_of_ble_eq_true rfl)) (kr_V ?_) kx_V
      refine g_cast kc3 dX4_isLike_73 cl_X4_28 (hK.g6 hpb) ?_
      refine g_callVN1 kc3 (ct_hasLines (hK.g6 hpa) (hK.g7 hpa7) (hK.g6 hpb) (hK.g7 hpb7) (h8 _ hpa) (h8 _ hpb)) md_X2_hasLinesOf dX4_isLike_76 ml_X4_30 im_X2_hasLinesOf se_X2_hasLinesOf (hK.g6 hpa) (RmOk.of (Nat.le_of_ble_eq_true rfl) (Nat.le_of_ble_eq_true rfl) (Nat.le_of_ble_eq_true rfl) (Nat.le_of_ble_eq_true rfl) (Nat.le_of_ble_eq_true rfl)) (kr_V ?_) kn_V
      refine g_if_ne (tgt := 84) dX4_isLike_79 (by decide) (fun h79 => ?_) (fun h79 => ?_)
      · skip
        refine g_iinc2 (v' := (nI (i + 1))) dX4_isLike_84 (nI_1 i) ?_
        refine g_goto (tgt := 32) dX4_isLike_87 (by decide) ?_
        exact ih (i + 1) (by omega) (by omega) (fun k hk => by rcases Nat.lt_succ_iff_lt_or_eq.mp hk with z | z; exact hall k z; rw [z]; exact bI_n.mp h79)
      · skip
        refine g_iconst (v := 0) dX4_isLike_82 (by decide) ?_
        refine g_zret dX4_isLike_83 (by decide) ?_ (Nat.le_of_ble_eq_true rfl) (Nat.le_of_ble_eq_true rfl)
        exact ⟨by rw [allB_no (f := fun i => pgC S (S.rF a + i) (S.rF b + i)) hlt (bI_0.mp h79)]; rfl, rfl⟩

set_option maxRecDepth 100000 in
theorem kt_isLike {G : Gx} {X : Nat → Prop} {w0 w : Wd} {S : KS} (hK : Kl G X w0 S w) {a b : Nat} (ha : a < S.nn 5) (hb : b < S.nn 5) (h8 : ∀ p, p < S.nn 6 → S.pS p ≤ 8) : Ct G yX4_isLike kw_X4_isLike rm_X4_isLike [.ref (S.ad 5 a), .ref (S.ad 5 b)] w (PV (.int (bI (rnC S a b))) w) := by
  have ha3 : a + 4 < S.nn 3 := by have := hK.u3; omega
  have hb3 : b + 4 < S.nn 3 := by have := hK.u3; omega
  have hla : S.ln (a + 4) ≤ 200 := by have := hK.cl.cp _ ha3; omega
  have hlb : S.ln (b + 4) ≤ 200 := by have := hK.cl.cp _ hb3; omega
  refine ct_intro RX4 "isLike" (by decide +kernel) rfl rfl rfl (Nat.le_of_ble_eq_true rfl) [some (.ref (S.ad 5 a)), some (.ref (S.ad 5 b)), none] rfl (fun C => ?_)
  refine g_aload0 dX4_isLike_0 ?_
  refine g_getf kc5 dX4_isLike_1 fl_X4_16 (by decide) (hK.g5 ha) rfl ?_
  refine g_aload1 dX4_isLike_4 ?_
  refine g_getf kc5 dX4_isLike_5 fl_X4_16 (by decide) (hK.g5 hb) rfl ?_
  refine g_icmp_ne (tgt := 28) dX4_isLike_8 (by decide) (fun h8b => ?_) (fun h8b => ?_)
  · skip
    refine g_iconst (v := 0) dX4_isLike_28 (by decide) ?_
    refine g_zret dX4_isLike_29 (by decide) ?_ (Nat.le_of_ble_eq_true rfl) (Nat.le_of_ble_eq_true rfl)
    first
      | exact ⟨by unfold rnC; rw [decide_eq_false h8b]; rfl, rfl⟩
      | exact ⟨by unfold rnC; rw [decide_eq_true h8b, decide_eq_false h25]; rfl, rfl⟩
  · skip
    refine g_aload0 dX4_isLike_11 ?_
    refine g_getf kc5 dX4_isLike_12 fl_X4_10 (by decide) (hK.g5 ha) rfl ?_
    refine g_callV0 kc0 (hK.ctSize ha3) md_Jx4a65c_size_8abf5 dX4_isLike_15 ml_X4_20 im_Jx4a65c_size_8abf5 se_Jx4a65c_size_8abf5 (hK.g3 ha3) (RmOk.of (Nat.le_of_ble_eq_true rfl) (Nat.le_of_ble_eq_true rfl) (Nat.le_of_ble_eq_true rfl) (Nat.le_of_ble_eq_true rfl) (Nat.le_of_ble_eq_true rfl)) (kr_V ?_) kx_V
    refine g_aload1 dX4_isLike_18 ?_
    refine g_getf kc5 dX4_isLike_19 fl_X4_10 (by decide) (hK.g5 hb) rfl ?_
    refine g_callV0 kc0 (hK.ctSize hb3) md_Jx4a65c_size_8abf5 dX4_isLike_22 ml_X4_20 im_Jx4a65c_size_8abf5 se_Jx4a65c_size_8abf5 (hK.g3 hb3) (RmOk.of (Nat.le_of_ble_eq_true rfl) (Nat.le_of_ble_eq_true rfl) (Nat.le_of_ble_eq_true rfl) (Nat.le_of_ble_eq_true rfl) (Nat.le_of_ble_eq_true rfl)) (kr_V ?_) kx_V
    refine g_icmp_eq (tgt := 30) dX4_isLike_25 (by decide) (fun h25 => ?_) (fun h25 => ?_)
    · skip
      refine g_iconst (v := 0) dX4_isLike_30 (by decide) ?_
      refine g_istore2 dX4_isLike_31 ?_
      unfold rnC
      rw [decide_eq_true h8b, decide_eq_true h25, Bool.true_and, Bool.true_and]
      exact lp_isLike hK ha hb h8 ((nI_eq (by omega) (by omega)).mp h25) C (S.ln (a + 4) + 1) 0 (by omega) (Nat.zero_le _) (fun k hk => absurd hk (Nat.not_lt_zero k))
    · skip
      refine g_iconst (v := 0) dX4_isLike_28 (by decide) ?_
      refine g_zret dX4_isLike_29 (by decide) ?_ (Nat.le_of_ble_eq_true rfl) (Nat.le_of_ble_eq_true rfl)
      first
        | exact ⟨by unfold rnC; rw [decide_eq_false h8b]; rfl, rfl⟩
        | exact ⟨by unfold rnC; rw [decide_eq_true h8b, decide_eq_false h25]; rfl, rfl⟩

abbrev rm_X5_twice : Room := { frames := 7, cells := 2, slots := 12, locals := 103 }

set_option maxRecDepth 100000 in
theorem kt_twice_a {G : Gx} {X : Nat → Prop} {w0 w : Wd} {S : KS} (hK : Kl G X w0 S w) {x : Int32} (h : inb x 0 (nI (S.ln 1) - 1) = false) : Ct G yX5_twice kw_X5_twice rm_X5_twice [.ref (S.ad 0 0), .int x] w (PX "java/lang/IndexOutOfBoundsException" w) := by
  refine ct_intro RX5 "twice" (by decide +kernel) rfl rfl rfl (Nat.le_of_ble_eq_true rfl) [some (.ref (S.ad 0 0)), some (.int x), none, none] rfl (fun C => ?_)
  refine g_aload0 dX5_twice_0 ?_
  refine g_iload1 dX5_twice_1 ?_
  refine g_callV1 kc6 (ct_runAt_no hK h) md_X5_runAt dX5_twice_2 ml_X5_122 im_X5_runAt se_X5_runAt hK.g0 (RmOk.of (Nat.le_of_ble_eq_true rfl) (Nat.le_of_ble_eq_true rfl) (Nat.le_of_ble_eq_true rfl) (Nat.le_of_ble_eq_true rfl) (Nat.le_of_ble_eq_true rfl)) kr_X (kx_X ?_)
  refine gx_out (fun _ h => nomatch h) ?_ (Nat.le_of_ble_eq_true rfl) (Nat.le_of_ble_eq_true rfl)
  exact ⟨rfl, rfl⟩

set_option maxRecDepth 100000 in
theorem lp_twice2 {G : Gx} {X : Nat → Prop} {w0 w : Wd} {S : KS} (hK : Kl G X w0 S w) {r : Nat} (hr : r < S.ln 1) (h8 : ∀ p, p < S.nn 6 → S.pS p ≤ 8) {c k : Nat} (hc : c ≤ 2) (hk : k ≤ 12) (C : Cx) : ∀ (M : Nat) (i : Nat), r - i < M → i ≤ r →
    Go G rm_X5_twice cX5_twice RX5 ((some .int), "twice", []) C (QP G rm_X5_twice (PV (.int (fdn (fun j => rnC S r j) r (r - i))) w) C) 8 [some (.ref (S.ad 0 0)), some (.int (nI r)), some (.ref (S.ad 5 r)), some (.int (nI i))] [] w c k := by
  intro M
  induction M with
  | zero => intro i hM9; exact absurd hM9 (Nat.not_lt_zero _)
  | succ M ih =>
    intro i hM9 hi
    have hr1 : 1 < S.nn 3 := by have := hK.u3; omega
    have hr5 : r < S.nn 5 := hK.cl.el 1 r hr1 hr
    have hln : S.ln 1 ≤ 200 := by have := hK.cl.cp _ hr1; omega
    refine g_iload3 dX5_twice_8 ?_
    refine g_iload1 dX5_twice_9 ?_
    refine g_icmp_ge (tgt := 50) dX5_twice_10 (by decide) (fun h10 => ?_) (fun h10 => ?_)
    · skip
      refine g_iconst (v := (-1)) dX5_twice_50 (by decide) ?_
      refine g_iret dX5_twice_51 ?_ (by (try dsimp only [rm_X5_twice]); omega) (by (try dsimp only [rm_X5_twice]); omega)
      exact ⟨by rw [show r - i = 0 by have := idx_ge (i := i) (n := r) (by omega) (by omega) h10; omega]; rfl, rfl⟩
    · skip
      have hlt : i < r := idx_lt (by omega) (by omega) h10
      have hi5 : i < S.nn 5 := hK.cl.el 1 i hr1 (by omega)
      have hst : fdn (fun j => rnC S r j) r (r - i) = if rnC S r i = true then nI i else fdn (fun j => rnC S r j) r (r - (i + 1)) := by
        rw [show r - i = (r - (i + 1)) + 1 by omega]
        show (if rnC S r (r - (r - (i + 1) + 1)) = true then nI (r - (r - (i + 1) + 1)) else _) = _
        rw [show r - (r - (i + 1) + 1) = i by omega]
      refine g_iload3 dX5_twice_13 ?_
      refine g_aload0 dX5_twice_14 ?_
      refine g_getf kc6 dX5_twice_15 fl_X5_25 (by decide) hK.g0 rfl ?_
      refine g_callV0 kc0 (hK.ctSize hr1) md_Jx4a65c_size_8abf5 dX5_twice_18 ml_X5_85 im_Jx4a65c_size_8abf5 se_Jx4a65c_size_8abf5 (hK.g3 hr1) (RmOk.of (Nat.le_of_ble_eq_true rfl) (Nat.le_of_ble_eq_true rfl) (Nat.le_of_ble_eq_true rfl) (by (try dsimp only [rm_X5_twice, rm_Jx4a65c_size_8abf5]); omega) (by (try dsimp only [rm_X5_twice, rm_Jx4a65c_size_8abf5]); omega)) (kr_V ?_) kx_V
      refine g_icmp_ge_f (tgt := 50) dX5_twice_21 (by decide) (nI_ge (show i < S.ln 1 by omega) (by omega)) ?_
      refine g_aload2 dX5_twice_24 ?_
      refine g_aload0 dX5_twice_25 ?_
      refine g_getf kc6 dX5_twice_26 fl_X5_25 (by decide) hK.g0 rfl ?_
      refine g_iload3 dX5_twice_29 ?_
      refine g_callV1 kc0 (hK.ctGetR hr1 (show i < S.ln 1 by omega)) md_Jx4a65c_get_915e3 dX5_twice_30 ml_X5_126 im_Jx4a65c_get_915e3 se_Jx4a65c_get_915e3 (hK.g3 hr1) (RmOk.of (Nat.le_of_ble_eq_true rfl) (Nat.le_of_ble_eq_true rfl) (Nat.le_of_ble_eq_true rfl) (by (try dsimp only [rm_X5_twice, rm_Jx4a65c_size_8abf5, rm_Jx4a65c_get_915e3]); omega) (by (try dsimp only [rm_X5_twice, rm_Jx4a65c_size_8abf5, rm_Jx4a65c_get_915e3]); omega)) (kr_V ?_) kx_V
      refine g_cast kc5 dX5_twice_33 cl_X5_28 (hK.g5 hi5) ?_
      refine g_callVN1 kc5 (kt_isLike hK hr5 hi5 h8) md_X4_isLike dX5_twice_36 ml_X5_130 im_X4_isLike se_X4_isLike (hK.g5 hr5) (RmOk.of (Nat.le_of_ble_eq_true rfl) (Nat.le_of_ble_eq_true rfl) (Nat.le_of_ble_eq_true rfl) (by (try dsimp only [rm_X5_twice, rm_Jx4a65c_size_8abf5, rm_Jx4a65c_get_915e3, rm_X4_isLike]); omega) (by (try dsimp only [rm_X5_twice, rm_Jx4a65c_size_8abf5, rm_Jx4a65c_get_915e3, rm_X4_isLike]); omega)) (kr_V ?_) kn_V
      refine g_if_eq (tgt := 44) dX5_twice_39 (by decide) (fun h39 => ?_) (fun h39 => ?_)
      · skip
        refine g_iinc3 (v' := (nI (i + 1))) dX5_twice_44 (nI_1 i) ?_
        refine g_goto (tgt := 8) dX5_twice_47 (by decide) ?_
        rw [hst, if_neg (fun z => by rw [bI_0.mp h39] at z; cases z)]
        exact ih (i + 1) (by omega) (by omega)
      · skip
        refine g_iload3 dX5_twice_42 ?_
        refine g_iret dX5_twice_43 ?_ (by (try dsimp only [rm_X5_twice, rm_Jx4a65c_size_8abf5, rm_Jx4a65c_get_915e3, rm_X4_isLike]); omega) (by (try dsimp only [rm_X5_twice, rm_Jx4a65c_size_8abf5, rm_Jx4a65c_get_915e3, rm_X4_isLike]); omega)
        exact ⟨by rw [hst, if_pos (bI_n.mp h39)], rfl⟩

set_option maxRecDepth 100000 in
theorem kt_twice_b {G : Gx} {X : Nat → Prop} {w0 w : Wd} {S : KS} (hK : Kl G X w0 S w) {r : Nat} (hr : r < S.ln 1) (h8 : ∀ p, p < S.nn 6 → S.pS p ≤ 8) : Ct G yX5_twice kw_X5_twice rm_X5_twice [.ref (S.ad 0 0), .int (nI r)] w (PV (.int (fdn (fun j => rnC S r j) r r)) w) := by
  refine ct_intro RX5 "twice" (by decide +kernel) rfl rfl rfl (Nat.le_of_ble_eq_true rfl) [some (.ref (S.ad 0 0)), some (.int (nI r)), none, none] rfl (fun C => ?_)
  refine g_aload0 dX5_twice_0 ?_
  refine g_iload1 dX5_twice_1 ?_
  refine g_callV1 kc6 (ct_runAt_ok hK hr) md_X5_runAt dX5_twice_2 ml_X5_122 im_X5_runAt se_X5_runAt hK.g0 (RmOk.of (Nat.le_of_ble_eq_true rfl) (Nat.le_of_ble_eq_true rfl) (Nat.le_of_ble_eq_true rfl) (Nat.le_of_ble_eq_true rfl) (Nat.le_of_ble_eq_true rfl)) (kr_V ?_) kx_V
  refine g_astore2 dX5_twice_5 ?_
  refine g_iconst (v := 0) dX5_twice_6 (by decide) ?_
  refine g_istore3 dX5_twice_7 ?_
  exact lp_twice2 hK hr h8 (by decide) (by decide) C (r + 1) 0 (by omega) (Nat.zero_le _)

abbrev rm_X5_reprint : Room := { frames := 7, cells := 10, slots := 60, locals := 104 }

def rpC (f : Nat → Int32) (lo hi : Nat) (c : Int32) : Nat → Int32 := fun q => if lo ≤ q ∧ q < hi then f q + c else f q
theorem rpC_at {f : Nat → Int32} {lo hi : Nat} {c : Int32} : rpC f lo hi c hi = f hi := if_neg (fun z => Nat.lt_irrefl _ z.2)
theorem rpC_0 {f : Nat → Int32} {lo : Nat} {c : Int32} : rpC f lo lo c = f := by funext q; exact if_neg (fun z => by omega)
theorem rpC_s {f : Nat → Int32} {lo hi : Nat} {c : Int32} (h : lo ≤ hi) : upd (rpC f lo hi c) hi (f hi + c) = rpC f lo (hi + 1) c := by
  funext q
  by_cases e : q = hi
  · rw [e, upd_s]
    exact (if_pos ⟨h, Nat.lt_succ_self _⟩).symm
  · rw [upd_n e]
    unfold rpC
    by_cases z : lo ≤ q ∧ q < hi
    · rw [if_pos z, if_pos ⟨z.1, by omega⟩]
    · rw [if_neg z, if_neg (fun y => z ⟨y.1, by omega⟩)]

set_option maxRecDepth 100000 in
theorem kt_reprint_a {G : Gx} {X : Nat → Prop} {w0 w : Wd} {S : KS} (hK : Kl G X w0 S w) {x y z : Int32} (h : inb x 0 (nI (S.ln 1) - 1) = false) : Ct G yX5_reprint kw_X5_reprint rm_X5_reprint [.ref (S.ad 0 0), .int x, .int y, .int z] w (PX "java/lang/IndexOutOfBoundsException" w) := by
  refine ct_intro RX5 "reprint" (by decide +kernel) rfl rfl rfl (Nat.le_of_ble_eq_true rfl) [some (.ref (S.ad 0 0)), some (.int x), some (.int y), some (.int z), none, none, none] rfl (fun C => ?_)
  refine g_aload0 dX5_reprint_0 ?_
  refine g_iload1 dX5_reprint_1 ?_
  refine g_callV1 kc6 (ct_runAt_no hK h) md_X5_runAt dX5_reprint_2 ml_X5_122 im_X5_runAt se_X5_runAt hK.g0 (RmOk.of (Nat.le_of_ble_eq_true rfl) (Nat.le_of_ble_eq_true rfl) (Nat.le_of_ble_eq_true rfl) (Nat.le_of_ble_eq_true rfl) (Nat.le_of_ble_eq_true rfl)) kr_X (kx_X ?_)
  refine gx_out (fun _ h => nomatch h) ?_ (Nat.le_of_ble_eq_true rfl) (Nat.le_of_ble_eq_true rfl)
  exact ⟨rfl, rfl⟩

set_option maxRecDepth 100000 in
theorem kt_reprint_b {G : Gx} {X : Nat → Prop} {w0 w : Wd} {S : KS} (hK : Kl G X w0 S w) {r : Nat} (hr : r < S.ln 1) {y z : Int32} (h : inb y 0 (nI (S.ln (r + 4)) - 1) = false) : Ct G yX5_reprint kw_X5_reprint rm_X5_reprint [.ref (S.ad 0 0), .int (nI r), .int y, .int z] w (PX "java/lang/IndexOutOfBoundsException" w) := by
  have hr1 : 1 < S.nn 3 := by have := hK.u3; omega
  have hr5 : r < S.nn 5 := hK.cl.el 1 r hr1 hr
  have hln : S.ln 1 ≤ 200 := by have := hK.cl.cp _ hr1; omega
  refine ct_intro RX5 "reprint" (by decide +kernel) rfl rfl rfl (Nat.le_of_ble_eq_true rfl) [some (.ref (S.ad 0 0)), some (.int (nI r)), some (.int y), some (.int z), none, none, none] rfl (fun C => ?_)
  refine g_aload0 dX5_reprint_0 ?_
  refine g_iload1 dX5_reprint_1 ?_
  refine g_callV1 kc6 (ct_runAt_ok hK hr) md_X5_runAt dX5_reprint_2 ml_X5_122 im_X5_runAt se_X5_runAt hK.g0 (RmOk.of (Nat.le_of_ble_eq_true rfl) (Nat.le_of_ble_eq_true rfl) (Nat.le_of_ble_eq_true rfl) (Nat.le_of_ble_eq_true rfl) (Nat.le_of_ble_eq_true rfl)) (kr_V ?_) kx_V
  refine g_astore4 dX5_reprint_5 ?_
  refine g_aload4 dX5_reprint_7 ?_
  refine g_iload2 dX5_reprint_9 ?_
  refine g_callS2 (ct_dp_no hK hr5 h) md_X5_demandPage dX5_reprint_10 ml_X5_134 st_X5_demandPage (RmOk.of (Nat.le_of_ble_eq_true rfl) (Nat.le_of_ble_eq_true rfl) (Nat.le_of_ble_eq_true rfl) (Nat.le_of_ble_eq_true rfl) (Nat.le_of_ble_eq_true rfl)) kr_X (kx_X ?_)
  refine gx_out (fun _ h => nomatch h) ?_ (Nat.le_of_ble_eq_true rfl) (Nat.le_of_ble_eq_true rfl)
  exact ⟨rfl, rfl⟩

set_option maxRecDepth 100000 in
theorem kt_reprint_c {G : Gx} {X : Nat → Prop} {w0 w : Wd} {S : KS} (hK : Kl G X w0 S w) {r pg : Nat} (hr : r < S.ln 1) (hp : pg < S.ln (r + 4)) {z : Int32} (h : inb z 1 9 = false) : Ct G yX5_reprint kw_X5_reprint rm_X5_reprint [.ref (S.ad 0 0), .int (nI r), .int (nI pg), .int z] w (PX "java/lang/IllegalArgumentException" w) := by
  have hr1 : 1 < S.nn 3 := by have := hK.u3; omega
  have hr5 : r < S.nn 5 := hK.cl.el 1 r hr1 hr
  have hln : S.ln 1 ≤ 200 := by have := hK.cl.cp _ hr1; omega
  refine ct_intro RX5 "reprint" (by decide +kernel) rfl rfl rfl (Nat.le_of_ble_eq_true rfl) [some (.ref (S.ad 0 0)), some (.int (nI r)), some (.int (nI pg)), some (.int z), none, none, none] rfl (fun C => ?_)
  refine g_aload0 dX5_reprint_0 ?_
  refine g_iload1 dX5_reprint_1 ?_
  refine g_callV1 kc6 (ct_runAt_ok hK hr) md_X5_runAt dX5_reprint_2 ml_X5_122 im_X5_runAt se_X5_runAt hK.g0 (RmOk.of (Nat.le_of_ble_eq_true rfl) (Nat.le_of_ble_eq_true rfl) (Nat.le_of_ble_eq_true rfl) (Nat.le_of_ble_eq_true rfl) (Nat.le_of_ble_eq_true rfl)) (kr_V ?_) kx_V
  refine g_astore4 dX5_reprint_5 ?_
  refine g_aload4 dX5_reprint_7 ?_
  refine g_iload2 dX5_reprint_9 ?_
  refine g_callS2 (ct_dp_ok hK hr5 hp) md_X5_demandPage dX5_reprint_10 ml_X5_134 st_X5_demandPage (RmOk.of (Nat.le_of_ble_eq_true rfl) (Nat.le_of_ble_eq_true rfl) (Nat.le_of_ble_eq_true rfl) (Nat.le_of_ble_eq_true rfl) (Nat.le_of_ble_eq_true rfl)) (kr_U ?_) kx_U
  refine g_iload3 dX5_reprint_13 ?_
  refine g_iconst (v := 1) dX5_reprint_14 (by decide) ?_
  refine g_bipush (v := 9) dX5_reprint_15 (by decide) ?_
  refine g_callS3 (ct_dr_no h) md_X5_demandRange dX5_reprint_17 ml_X5_71 st_X5_demandRange (RmOk.of (Nat.le_of_ble_eq_true rfl) (Nat.le_of_ble_eq_true rfl) (Nat.le_of_ble_eq_true rfl) (Nat.le_of_ble_eq_true rfl) (Nat.le_of_ble_eq_true rfl)) kr_X (kx_X ?_)
  refine gx_out (fun _ h => nomatch h) ?_ (Nat.le_of_ble_eq_true rfl) (Nat.le_of_ble_eq_true rfl)
  exact ⟨rfl, rfl⟩

set_option maxRecDepth 100000 in
theorem lp_reprint2 {G : Gx} {X : Nat → Prop} {w0 w : Wd} {S : KS} (hK : Kl G X w0 S w) {r pg : Nat} (hr : r < S.ln 1) (hp : pg < S.ln (r + 4)) {c : Nat} (hc9 : c ≤ 9) {c0 k0 : Nat} (hc : c0 ≤ 10) (hk : k0 ≤ 60) (C : Cx) : ∀ (M : Nat) (i : Nat) (w1 : Wd), S.ln (r + 4) - i < M → pg ≤ i → i ≤ S.ln (r + 4) → Kl G X w0 (S.spC (rpC S.pC (S.rF r + pg) (S.rF r + i) (nI c))) w1 →
    Go G rm_X5_reprint cX5_reprint RX5 ((some .int), "reprint", []) C (QP G rm_X5_reprint (PB (.int (nI (c * (S.ln (r + 4) - pg)))) (fun w' => Kl G X w0 (S.spC (rpC S.pC (S.rF r + pg) (S.rF r + S.ln (r + 4)) (nI c))) w')) C) 26 [some (.ref (S.ad 0 0)), some (.int (nI r)), some (.int (nI pg)), some (.int (nI c)), some (.ref (S.ad 5 r)), some (.int (nI (c * (i - pg)))), some (.int (nI i))] [] w1 c0 k0 := by
  intro M
  induction M with
  | zero => intro i w1 hM9; exact absurd hM9 (Nat.not_lt_zero _)
  | succ M ih =>
    intro i w1 hM9 hpi hi hK1
    have hr1 : 1 < S.nn 3 := by have := hK.u3; omega
    have hr5 : r < S.nn 5 := hK.cl.el 1 r hr1 hr
    have hln : S.ln 1 ≤ 200 := by have := hK.cl.cp _ hr1; omega
    have hr3 : r + 4 < S.nn 3 := by have := hK.u3; omega
    have hlp : S.ln (r + 4) ≤ 200 := by have := hK.cl.cp _ hr3; omega
    refine g_iload6 dX5_reprint_26 ?_
    refine g_aload4 dX5_reprint_28 ?_
    refine g_getf kc5 dX5_reprint_30 fl_X5_103 (by decide) (hK1.g5 (i := r) hr5) rfl ?_
    refine g_callV0 kc0 (hK1.ctSize (l := r + 4) hr3) md_Jx4a65c_size_8abf5 dX5_reprint_33 ml_X5_85 im_Jx4a65c_size_8abf5 se_Jx4a65c_size_8abf5 (hK1.g3 (i := r + 4) hr3) (RmOk.of (Nat.le_of_ble_eq_true rfl) (Nat.le_of_ble_eq_true rfl) (Nat.le_of_ble_eq_true rfl) (by (try dsimp only [rm_X5_reprint, rm_Jx4a65c_size_8abf5]); omega) (by (try dsimp only [rm_X5_reprint, rm_Jx4a65c_size_8abf5]); omega)) (kr_V ?_) kx_V
    refine g_icmp_ge (tgt := 73) dX5_reprint_36 (by decide) (fun h36 => ?_) (fun h36 => ?_)
    · skip
      refine g_iload5 dX5_reprint_73 ?_
      refine g_iret dX5_reprint_75 ?_ (by (try dsimp only [rm_X5_reprint, rm_Jx4a65c_size_8abf5]); omega) (by (try dsimp only [rm_X5_reprint, rm_Jx4a65c_size_8abf5]); omega)
      have hge := idx_ge (i := i) (n := S.ln (r + 4)) (by omega) (by omega) h36
      obtain rfl : i = S.ln (r + 4) := by omega
      exact ⟨rfl, hK1⟩
    · skip
      have h36 : ¬ nI (S.ln (r + 4)) ≤ nI i := h36
      have hlt : i < S.ln (r + 4) := idx_lt (by omega) (by omega) h36
      have hp6 : S.rF r + i < S.nn 6 := hK.cl.el (r + 4) i hr3 hlt
      have hg6 := hK1.g6 (i := S.rF r + i) hp6
      have hput := hK1.pPC (i := S.rF r + i) hp6 (S.pC (S.rF r + i) + nI c)
      rw [show upd (S.spC (rpC S.pC (S.rF r + pg) (S.rF r + i) (nI c))).pC (S.rF r + i) (S.pC (S.rF r + i) + nI c) = rpC S.pC (S.rF r + pg) (S.rF r + (i + 1)) (nI c) from rpC_s (by omega)] at hput
      refine g_aload4 dX5_reprint_39 ?_
      refine g_getf kc5 dX5_reprint_41 fl_X5_103 (by decide) (hK1.g5 (i := r) hr5) rfl ?_
      refine g_iload6 dX5_reprint_44 ?_
      refine g_callV1 kc0 (hK1.ctGetP (l := r) hr3 hlt) md_Jx4a65c_get_915e3 dX5_reprint_46 ml_X5_126 im_Jx4a65c_get_915e3 se_Jx4a65c_get_915e3 (hK1.g3 (i := r + 4) hr3) (RmOk.of (Nat.le_of_ble_eq_true rfl) (Nat.le_of_ble_eq_true rfl) (Nat.le_of_ble_eq_true rfl) (by (try dsimp only [rm_X5_reprint, rm_Jx4a65c_size_8abf5, rm_Jx4a65c_get_915e3]); omega) (by (try dsimp only [rm_X5_reprint, rm_Jx4a65c_size_8abf5, rm_Jx4a65c_get_915e3]); omega)) (kr_V ?_) kx_V
      refine g_cast kc3 dX5_reprint_49 cl_X5_35 hg6 ?_
      refine g_dup dX5_reprint_52 rfl ?_
      refine g_getf kc3 dX5_reprint_53 fl_X5_138 (by decide) hg6 rfl ?_
      refine g_iload3 dX5_reprint_56 ?_
      rw [show (S.spC (rpC S.pC (S.rF r + pg) (S.rF r + i) (nI c))).pC (S.rF r + i) = S.pC (S.rF r + i) from rpC_at]
      refine g_iadd dX5_reprint_57 ?_
      refine g_putf (fs' := [.ref (S.ad 7 (S.rF r + i)), .int (nI (S.pS (S.rF r + i))), .int (S.pC (S.rF r + i) + nI c)]) kc3 dX5_reprint_58 fl_X5_138 (by decide) rfl hg6 (hK1.b6 (i := S.rF r + i) hp6) rfl rfl (Nat.le_of_ble_eq_true rfl) rfl ?_
      refine g_iload5 dX5_reprint_61 ?_
      refine g_iload3 dX5_reprint_63 ?_
      refine g_iadd dX5_reprint_64 ?_
      rw [nI_add, show c * (i - pg) + c = c * (i + 1 - pg) by rw [show i + 1 - pg = (i - pg) + 1 by omega, Nat.mul_succ]]
      refine g_istore5 dX5_reprint_65 ?_
      refine g_iinc6 (v' := (nI (i + 1))) dX5_reprint_67 (nI_1 i) ?_
      refine g_goto (tgt := 26) dX5_reprint_70 (by decide) ?_
      exact ih (i + 1) _ (by omega) (by omega) (by omega) hput

set_option maxRecDepth 100000 in
theorem kt_reprint_d {G : Gx} {X : Nat → Prop} {w0 w : Wd} {S : KS} (hK : Kl G X w0 S w) {r pg : Nat} (hr : r < S.ln 1) (hp : pg < S.ln (r + 4)) {c : Nat} (hc9 : c ≤ 9) (h : inb (nI c) 1 9 = true) : Ct G yX5_reprint kw_X5_reprint rm_X5_reprint [.ref (S.ad 0 0), .int (nI r), .int (nI pg), .int (nI c)] w (PB (.int (nI (c * (S.ln (r + 4) - pg)))) (fun w' => Kl G X w0 (S.spC (rpC S.pC (S.rF r + pg) (S.rF r + S.ln (r + 4)) (nI c))) w')) := by
  have hr1 : 1 < S.nn 3 := by have := hK.u3; omega
  have hr5 : r < S.nn 5 := hK.cl.el 1 r hr1 hr
  have hln : S.ln 1 ≤ 200 := by have := hK.cl.cp _ hr1; omega
  refine ct_intro RX5 "reprint" (by decide +kernel) rfl rfl rfl (Nat.le_of_ble_eq_true rfl) [some (.ref (S.ad 0 0)), some (.int (nI r)), some (.int (nI pg)), some (.int (nI c)), none, none, none] rfl (fun C => ?_)
  refine g_aload0 dX5_reprint_0 ?_
  refine g_iload1 dX5_reprint_1 ?_
  refine g_callV1 kc6 (ct_runAt_ok hK hr) md_X5_runAt dX5_reprint_2 ml_X5_122 im_X5_runAt se_X5_runAt hK.g0 (RmOk.of (Nat.le_of_ble_eq_true rfl) (Nat.le_of_ble_eq_true rfl) (Nat.le_of_ble_eq_true rfl) (Nat.le_of_ble_eq_true rfl) (Nat.le_of_ble_eq_true rfl)) (kr_V ?_) kx_V
  refine g_astore4 dX5_reprint_5 ?_
  refine g_aload4 dX5_reprint_7 ?_
  refine g_iload2 dX5_reprint_9 ?_
  refine g_callS2 (ct_dp_ok hK hr5 hp) md_X5_demandPage dX5_reprint_10 ml_X5_134 st_X5_demandPage (RmOk.of (Nat.le_of_ble_eq_true rfl) (Nat.le_of_ble_eq_true rfl) (Nat.le_of_ble_eq_true rfl) (Nat.le_of_ble_eq_true rfl) (Nat.le_of_ble_eq_true rfl)) (kr_U ?_) kx_U
  refine g_iload3 dX5_reprint_13 ?_
  refine g_iconst (v := 1) dX5_reprint_14 (by decide) ?_
  refine g_bipush (v := 9) dX5_reprint_15 (by decide) ?_
  refine g_callS3 (ct_dr_ok h) md_X5_demandRange dX5_reprint_17 ml_X5_71 st_X5_demandRange (RmOk.of (Nat.le_of_ble_eq_true rfl) (Nat.le_of_ble_eq_true rfl) (Nat.le_of_ble_eq_true rfl) (Nat.le_of_ble_eq_true rfl) (Nat.le_of_ble_eq_true rfl)) (kr_U ?_) kx_U
  refine g_iconst (v := 0) dX5_reprint_20 (by decide) ?_
  refine g_istore5 dX5_reprint_21 ?_
  refine g_iload2 dX5_reprint_23 ?_
  refine g_istore6 dX5_reprint_24 ?_
  have hl := lp_reprint2 hK hr hp hc9 (c0 := 0 + rm_X5_runAt.cells + rm_X5_demandPage.cells + rm_X5_demandRange.cells) (k0 := 0 + rm_X5_runAt.slots + rm_X5_demandPage.slots + rm_X5_demandRange.slots) (by decide) (by decide) C (S.ln (r + 4) + 1) pg w (by omega) (Nat.le_refl _) (Nat.le_of_lt hp) (by rw [rpC_0]; exact hK)
  rw [show c * (pg - pg) = 0 by rw [Nat.sub_self, Nat.mul_zero]] at hl
  exact hl

def seeS (S : KS) (r d : Nat) : Bool := seeC (decide (r = 0)) (S.rd r 1) (S.rd r 2) (S.dI d 1) (S.dI d 4)
def buCP (S : KS) (r : Nat) (ac : Int32) (d : Nat) : Bool := decide (S.dI d 1 = ac) && seeS S r d
def buC (S : KS) (r : Nat) (ac : Int32) : Nat → Int32
  | 0 => 0
  | n + 1 => buC S r ac n + (if buCP S r ac n = true then S.dI n 3 else 0)

abbrev rm_X5_bundle : Room := { frames := 7, cells := 10, slots := 60, locals := 104 }

set_option maxRecDepth 100000 in
theorem kt_bundle_a1 {G : Gx} {X : Nat → Prop} {w0 w : Wd} {S : KS} (hK : Kl G X w0 S w) {x y : Int32} (h : inb x 0 (nI (S.ln 3) - 1) = false) : Ct G yX5_bundle kw_X5_bundle rm_X5_bundle [.ref (S.ad 0 0), .int x, .int y] w (PX "java/lang/IllegalArgumentException" w) := by
  refine ct_intro RX5 "bundle" (by decide +kernel) rfl rfl rfl (Nat.le_of_ble_eq_true rfl) [some (.ref (S.ad 0 0)), some (.int x), some (.int y), none, none, none, none] rfl (fun C => ?_)
  refine g_aload0 dX5_bundle_0 ?_
  refine g_iload1 dX5_bundle_1 ?_
  refine g_callV1 kc6 (ct_rdrAt_no hK h) md_X5_readerAt dX5_bundle_2 ml_X5_164 im_X5_readerAt se_X5_readerAt hK.g0 (RmOk.of (Nat.le_of_ble_eq_true rfl) (Nat.le_of_ble_eq_true rfl) (Nat.le_of_ble_eq_true rfl) (Nat.le_of_ble_eq_true rfl) (Nat.le_of_ble_eq_true rfl)) kr_X (kx_X ?_)
  refine gx_out (fun _ h => nomatch h) ?_ (Nat.le_of_ble_eq_true rfl) (Nat.le_of_ble_eq_true rfl)
  exact ⟨rfl, rfl⟩

set_option maxRecDepth 100000 in
theorem kt_bundle_a2 {G : Gx} {X : Nat → Prop} {w0 w : Wd} {S : KS} (hK : Kl G X w0 S w) {r : Nat} (hr : r < S.ln 3) {y : Int32} (h : inb y 0 99 = false) : Ct G yX5_bundle kw_X5_bundle rm_X5_bundle [.ref (S.ad 0 0), .int (nI r), .int y] w (PX "java/lang/IllegalArgumentException" w) := by
  refine ct_intro RX5 "bundle" (by decide +kernel) rfl rfl rfl (Nat.le_of_ble_eq_true rfl) [some (.ref (S.ad 0 0)), some (.int (nI r)), some (.int y), none, none, none, none] rfl (fun C => ?_)
  refine g_aload0 dX5_bundle_0 ?_
  refine g_iload1 dX5_bundle_1 ?_
  refine g_callV1 kc6 (ct_rdrAt_ok hK hr) md_X5_readerAt dX5_bundle_2 ml_X5_164 im_X5_readerAt se_X5_readerAt hK.g0 (RmOk.of (Nat.le_of_ble_eq_true rfl) (Nat.le_of_ble_eq_true rfl) (Nat.le_of_ble_eq_true rfl) (Nat.le_of_ble_eq_true rfl) (Nat.le_of_ble_eq_true rfl)) (kr_V ?_) kx_V
  refine g_astore3 dX5_bundle_5 ?_
  refine g_iload2 dX5_bundle_6 ?_
  refine g_iconst (v := 0) dX5_bundle_7 (by decide) ?_
  refine g_bipush (v := 99) dX5_bundle_8 (by decide) ?_
  refine g_callS3 (ct_dr_no h) md_X5_demandRange dX5_bundle_10 ml_X5_71 st_X5_demandRange (RmOk.of (Nat.le_of_ble_eq_true rfl) (Nat.le_of_ble_eq_true rfl) (Nat.le_of_ble_eq_true rfl) (Nat.le_of_ble_eq_true rfl) (Nat.le_of_ble_eq_true rfl)) kr_X (kx_X ?_)
  refine gx_out (fun _ h => nomatch h) ?_ (Nat.le_of_ble_eq_true rfl) (Nat.le_of_ble_eq_true rfl)
  exact ⟨rfl, rfl⟩

theorem i32_add0 (x : Int32) : x + 0 = x := by simp
set_option maxRecDepth 100000 in
theorem lp_bundle2 {G : Gx} {X : Nat → Prop} {w0 w : Wd} {S : KS} (hK : Kl G X w0 S w) {r : Nat} (hr : r < S.ln 3) (hlk : S.rd r 0 = bI (decide (r = 0))) {y : Int32} {c k : Nat} (hc : c ≤ 10) (hk : k ≤ 60) (C : Cx) : ∀ (M : Nat) (i : Nat) (x6 : Option Value), S.ln 2 - i < M → i ≤ S.ln 2 →
    Go G rm_X5_bundle cX5_bundle RX5 ((some .int), "bundle", []) C (QP G rm_X5_bundle (PV (.int (buC S r y (S.ln 2))) w) C) 19 [some (.ref (S.ad 0 0)), some (.int (nI r)), some (.int y), some (.ref (S.ad 9 r)), some (.int (buC S r y i)), some (.int (nI i)), x6] [] w c k := by
  intro M
  induction M with
  | zero => intro i x6 hM9; exact absurd hM9 (Nat.not_lt_zero _)
  | succ M ih =>
    intro i x6 hM9 hi
    have hr3 : 3 < S.nn 3 := by have := hK.u3; omega
    have hr9 : r < S.nn 9 := hK.cl.el 3 r hr3 hr
    have hr2 : 2 < S.nn 3 := by have := hK.u3; omega
    have hln : S.ln 2 ≤ 200 := by have := hK.cl.cp _ hr2; omega
    have hgq := hK.g9 hr9
    rw [hlk] at hgq
    refine g_iload5 dX5_bundle_19 ?_
    refine g_aload0 dX5_bundle_21 ?_
    refine g_getf kc6 dX5_bundle_22 fl_X5_42 (by decide) hK.g0 rfl ?_
    refine g_callV0 kc0 (hK.ctSize hr2) md_Jx4a65c_size_8abf5 dX5_bundle_25 ml_X5_85 im_Jx4a65c_size_8abf5 se_Jx4a65c_size_8abf5 (hK.g3 hr2) (RmOk.of (Nat.le_of_ble_eq_true rfl) (Nat.le_of_ble_eq_true rfl) (Nat.le_of_ble_eq_true rfl) (by (try dsimp only [rm_X5_bundle, rm_Jx4a65c_size_8abf5]); omega) (by (try dsimp only [rm_X5_bundle, rm_Jx4a65c_size_8abf5]); omega)) (kr_V ?_) kx_V
    refine g_icmp_ge (tgt := 79) dX5_bundle_28 (by decide) (fun h28 => ?_) (fun h28 => ?_)
    · skip
      refine g_iload4 dX5_bundle_79 ?_
      refine g_iret dX5_bundle_81 ?_ (by (try dsimp only [rm_X5_bundle, rm_Jx4a65c_size_8abf5]); omega) (by (try dsimp only [rm_X5_bundle, rm_Jx4a65c_size_8abf5]); omega)
      exact ⟨by rw [show i = S.ln 2 from Nat.le_antisymm hi (idx_ge (by omega) (by omega) h28)], rfl⟩
    · skip
      have hlt : i < S.ln 2 := idx_lt (by omega) (by omega) h28
      have hd8 : i < S.nn 8 := hK.cl.el 2 i hr2 hlt
      have hst : buC S r y (i + 1) = buC S r y i + (if buCP S r y i = true then S.dI i 3 else 0) := rfl
      refine g_aload0 dX5_bundle_31 ?_
      refine g_getf kc6 dX5_bundle_32 fl_X5_42 (by decide) hK.g0 rfl ?_
      refine g_iload5 dX5_bundle_35 ?_
      refine g_callV1 kc0 (hK.ctGetD hr2 hlt) md_Jx4a65c_get_915e3 dX5_bundle_37 ml_X5_126 im_Jx4a65c_get_915e3 se_Jx4a65c_get_915e3 (hK.g3 hr2) (RmOk.of (Nat.le_of_ble_eq_true rfl) (Nat.le_of_ble_eq_true rfl) (Nat.le_of_ble_eq_true rfl) (by (try dsimp only [rm_X5_bundle, rm_Jx4a65c_size_8abf5, rm_Jx4a65c_get_915e3]); omega) (by (try dsimp only [rm_X5_bundle, rm_Jx4a65c_size_8abf5, rm_Jx4a65c_get_915e3]); omega)) (kr_V ?_) kx_V
      refine g_cast kc1 dX5_bundle_40 cl_X5_150 (hK.g8 hd8) ?_
      refine g_astore6 dX5_bundle_43 ?_
      refine g_aload6 dX5_bundle_45 ?_
      refine g_getf kc1 dX5_bundle_47 fl_X5_155 (by decide) (hK.g8 hd8) rfl ?_
      refine g_iload2 dX5_bundle_50 ?_
      refine g_icmp_ne (tgt := 73) dX5_bundle_51 (by decide) (fun h51 => ?_) (fun h51 => ?_)
      · skip
        refine g_iinc5 (v' := (nI (i + 1))) dX5_bundle_73 (nI_1 i) ?_
        refine g_goto (tgt := 19) dX5_bundle_76 (by decide) ?_
        have h9 := ih (i + 1) (some (.ref (S.ad 8 i))) (by omega) (by omega)
        first
          | (rw [hst, if_pos (show buCP S r y i = true by unfold buCP; rw [decide_eq_true h51]; exact bI_n.mp h60)] at h9
             exact h9)
          | (rw [hst, if_neg (show ¬ buCP S r y i = true by unfold buCP; rw [decide_eq_true h51, Bool.true_and]; intro z; rw [show seeC (decide (r = 0)) (S.rd r 1) (S.rd r 2) (S.dI i 1) (S.dI i 4) = true from z] at h60; exact absurd h60 (by decide)), i32_add0] at h9
             exact h9)
          | (rw [hst, if_neg (show ¬ buCP S r y i = true by unfold buCP; rw [decide_eq_false h51]; intro z; cases z), i32_add0] at h9
             exact h9)
      · skip
        refine g_aload3 dX5_bundle_54 ?_
        refine g_aload6 dX5_bundle_55 ?_
        refine g_callVN1 kc4 (ct_csees hgq (hK.g8 hd8)) md_X3_sees dX5_bundle_57 ml_X5_168 im_X3_sees se_X3_sees hgq (RmOk.of (Nat.le_of_ble_eq_true rfl) (Nat.le_of_ble_eq_true rfl) (Nat.le_of_ble_eq_true rfl) (by (try dsimp only [rm_X5_bundle, rm_Jx4a65c_size_8abf5, rm_Jx4a65c_get_915e3, rm_X3_sees]); omega) (by (try dsimp only [rm_X5_bundle, rm_Jx4a65c_size_8abf5, rm_Jx4a65c_get_915e3, rm_X3_sees]); omega)) (kr_V ?_) kn_V
        refine g_if_eq (tgt := 73) dX5_bundle_60 (by decide) (fun h60 => ?_) (fun h60 => ?_)
        · skip
          refine g_iinc5 (v' := (nI (i + 1))) dX5_bundle_73 (nI_1 i) ?_
          refine g_goto (tgt := 19) dX5_bundle_76 (by decide) ?_
          have h9 := ih (i + 1) (some (.ref (S.ad 8 i))) (by omega) (by omega)
          first
            | (rw [hst, if_pos (show buCP S r y i = true by unfold buCP; rw [decide_eq_true h51]; exact bI_n.mp h60)] at h9
               exact h9)
            | (rw [hst, if_neg (show ¬ buCP S r y i = true by unfold buCP; rw [decide_eq_true h51, Bool.true_and]; intro z; rw [show seeC (decide (r = 0)) (S.rd r 1) (S.rd r 2) (S.dI i 1) (S.dI i 4) = true from z] at h60; exact absurd h60 (by decide)), i32_add0] at h9
               exact h9)
            | (rw [hst, if_neg (show ¬ buCP S r y i = true by unfold buCP; rw [decide_eq_false h51]; intro z; cases z), i32_add0] at h9
               exact h9)
        · skip
          refine g_iload4 dX5_bundle_63 ?_
          refine g_aload6 dX5_bundle_65 ?_
          refine g_getf kc1 dX5_bundle_67 fl_X5_161 (by decide) (hK.g8 hd8) rfl ?_
          refine g_iadd dX5_bundle_70 ?_
          refine g_istore4 dX5_bundle_71 ?_
          refine g_iinc5 (v' := (nI (i + 1))) dX5_bundle_73 (nI_1 i) ?_
          refine g_goto (tgt := 19) dX5_bundle_76 (by decide) ?_
          have h9 := ih (i + 1) (some (.ref (S.ad 8 i))) (by omega) (by omega)
          first
            | (rw [hst, if_pos (show buCP S r y i = true by unfold buCP; rw [decide_eq_true h51]; exact bI_n.mp h60)] at h9
               exact h9)
            | (rw [hst, if_neg (show ¬ buCP S r y i = true by unfold buCP; rw [decide_eq_true h51, Bool.true_and]; intro z; rw [show seeC (decide (r = 0)) (S.rd r 1) (S.rd r 2) (S.dI i 1) (S.dI i 4) = true from z] at h60; exact absurd h60 (by decide)), i32_add0] at h9
               exact h9)
            | (rw [hst, if_neg (show ¬ buCP S r y i = true by unfold buCP; rw [decide_eq_false h51]; intro z; cases z), i32_add0] at h9
               exact h9)

set_option maxRecDepth 100000 in
theorem kt_bundle_b {G : Gx} {X : Nat → Prop} {w0 w : Wd} {S : KS} (hK : Kl G X w0 S w) {r : Nat} (hr : r < S.ln 3) (hlk : S.rd r 0 = bI (decide (r = 0))) {y : Int32} (h : inb y 0 99 = true) : Ct G yX5_bundle kw_X5_bundle rm_X5_bundle [.ref (S.ad 0 0), .int (nI r), .int y] w (PV (.int (buC S r y (S.ln 2))) w) := by
  refine ct_intro RX5 "bundle" (by decide +kernel) rfl rfl rfl (Nat.le_of_ble_eq_true rfl) [some (.ref (S.ad 0 0)), some (.int (nI r)), some (.int y), none, none, none, none] rfl (fun C => ?_)
  refine g_aload0 dX5_bundle_0 ?_
  refine g_iload1 dX5_bundle_1 ?_
  refine g_callV1 kc6 (ct_rdrAt_ok hK hr) md_X5_readerAt dX5_bundle_2 ml_X5_164 im_X5_readerAt se_X5_readerAt hK.g0 (RmOk.of (Nat.le_of_ble_eq_true rfl) (Nat.le_of_ble_eq_true rfl) (Nat.le_of_ble_eq_true rfl) (Nat.le_of_ble_eq_true rfl) (Nat.le_of_ble_eq_true rfl)) (kr_V ?_) kx_V
  refine g_astore3 dX5_bundle_5 ?_
  refine g_iload2 dX5_bundle_6 ?_
  refine g_iconst (v := 0) dX5_bundle_7 (by decide) ?_
  refine g_bipush (v := 99) dX5_bundle_8 (by decide) ?_
  refine g_callS3 (ct_dr_ok h) md_X5_demandRange dX5_bundle_10 ml_X5_71 st_X5_demandRange (RmOk.of (Nat.le_of_ble_eq_true rfl) (Nat.le_of_ble_eq_true rfl) (Nat.le_of_ble_eq_true rfl) (Nat.le_of_ble_eq_true rfl) (Nat.le_of_ble_eq_true rfl)) (kr_U ?_) kx_U
  refine g_iconst (v := 0) dX5_bundle_13 (by decide) ?_
  refine g_istore4 dX5_bundle_14 ?_
  refine g_iconst (v := 0) dX5_bundle_16 (by decide) ?_
  refine g_istore5 dX5_bundle_17 ?_
  exact lp_bundle2 hK hr hlk (by decide) (by decide) C (S.ln 2 + 1) 0 none (by omega) (Nat.zero_le _)

